abbrev yy_X4_isWord : mm_Y := (yX4_isWord, cX4_isWord, 2, (some .boolean))
theorem dX4_isWord_0 : decode cX4_isWord 0 = .ok (.aload_n 0, 1) := by decide +kernel
theorem dX4_isWord_1 : decode cX4_isWord 1 = .ok (.getfield 44, 3) := by decide +kernel
theorem dX4_isWord_4 : decode cX4_isWord 4 = .ok (.iconst 1, 1) := by decide +kernel
theorem dX4_isWord_5 : decode cX4_isWord 5 = .ok (.if_icmp .ne 15, 3) := by decide +kernel
theorem dX4_isWord_8 : decode cX4_isWord 8 = .ok (.aload_n 0, 1) := by decide +kernel
theorem dX4_isWord_9 : decode cX4_isWord 9 = .ok (.getfield 47, 3) := by decide +kernel
theorem dX4_isWord_12 : decode cX4_isWord 12 = .ok (.iload_n 1, 1) := by decide +kernel
theorem dX4_isWord_13 : decode cX4_isWord 13 = .ok (.if_icmp .ne 7, 3) := by decide +kernel
theorem dX4_isWord_16 : decode cX4_isWord 16 = .ok (.iconst 1, 1) := by decide +kernel
theorem dX4_isWord_17 : decode cX4_isWord 17 = .ok (.goto 4, 3) := by decide +kernel
theorem dX4_isWord_20 : decode cX4_isWord 20 = .ok (.iconst 0, 1) := by decide +kernel
theorem dX4_isWord_21 : decode cX4_isWord 21 = .ok (.ireturn, 1) := by decide +kernel
def f_X4_isWord (a0 : Nat) (i1 : Int32) (σ : mm_S) : Option (Int32 × mm_S) :=
    if (σ.1 a0 6) = (1 : Int32) then
      if (σ.1 a0 7) = i1 then
        some ((1 : Int32), σ)
      else
        some ((0 : Int32), σ)
    else
      some ((0 : Int32), σ)
theorem v_X4_isWord {g : mm_G} (d : Nat) {a0 : Nat} {i1 : Int32} {σ : mm_S} {res : Int32 × mm_S} (h_a0 : (mm_K a0).1 = 4) (h : f_X4_isWord a0 i1 σ = some res) : SM g (d + 0) yy_X4_isWord [.ref a0, .int i1] σ (.int res.1) res.2 := by
  refine s_of (by decide) (Nat.le_of_ble_eq_true rfl) (L := [(0, .ref a0), (1, .int i1)]) rfl ?_
  unfold f_X4_isWord at h
  refine e_aload_n 0 dX4_isWord_0 rfl rfl ?_
  refine s_geti dX4_isWord_1 fl_RX4_44 h_a0 ?_
  refine e_iconst (v := (1 : Int32)) dX4_isWord_4 (by decide) ?_
  refine e_icmp_ne 20 dX4_isWord_5 (by decide) (fun c3 => ?_) (fun c3 => ?_)
  · rw [if_neg c3] at h
    refine e_iconst (v := (0 : Int32)) dX4_isWord_20 (by decide) ?_
    obtain rfl := Option.some.inj h
    exact s_ret rfl ⟨_, rfl, nb1 (Or.inl rfl)⟩ dX4_isWord_21
  · rw [if_pos c3] at h
    refine e_aload_n 0 dX4_isWord_8 rfl rfl ?_
    refine s_geti dX4_isWord_9 fl_RX4_47 h_a0 ?_
    refine e_iload_n 1 dX4_isWord_12 rfl rfl ?_
    refine e_icmp_ne 20 dX4_isWord_13 (by decide) (fun c4 => ?_) (fun c4 => ?_)
    · rw [if_neg c4] at h
      refine e_iconst (v := (0 : Int32)) dX4_isWord_20 (by decide) ?_
      obtain rfl := Option.some.inj h
      exact s_ret rfl ⟨_, rfl, nb1 (Or.inl rfl)⟩ dX4_isWord_21
    · rw [if_pos c4] at h
      refine e_iconst (v := (1 : Int32)) dX4_isWord_16 (by decide) ?_
      refine e_goto 21 dX4_isWord_17 (by decide) ?_
      obtain rfl := Option.some.inj h
      exact s_ret rfl ⟨_, rfl, nb1 (Or.inr rfl)⟩ dX4_isWord_21
abbrev yy_X4_step : mm_Y := (yX4_step, cX4_step, 1, none)
theorem dX4_step_0 : decode cX4_step 0 = .ok (.aload_n 0, 1) := by decide +kernel
theorem dX4_step_1 : decode cX4_step 1 = .ok (.getfield 35, 3) := by decide +kernel
theorem dX4_step_4 : decode cX4_step 4 = .ok (.iconst 1, 1) := by decide +kernel
theorem dX4_step_5 : decode cX4_step 5 = .ok (.iadd, 1) := by decide +kernel
theorem dX4_step_6 : decode cX4_step 6 = .ok (.aload_n 0, 1) := by decide +kernel
theorem dX4_step_7 : decode cX4_step 7 = .ok (.getfield 41, 3) := by decide +kernel
theorem dX4_step_10 : decode cX4_step 10 = .ok (.if_icmp .ge 52, 3) := by decide +kernel
theorem dX4_step_13 : decode cX4_step 13 = .ok (.aload_n 0, 1) := by decide +kernel
theorem dX4_step_14 : decode cX4_step 14 = .ok (.dup, 1) := by decide +kernel
theorem dX4_step_15 : decode cX4_step 15 = .ok (.getfield 35, 3) := by decide +kernel
theorem dX4_step_18 : decode cX4_step 18 = .ok (.iconst 1, 1) := by decide +kernel
theorem dX4_step_19 : decode cX4_step 19 = .ok (.iadd, 1) := by decide +kernel
theorem dX4_step_20 : decode cX4_step 20 = .ok (.putfield 35, 3) := by decide +kernel
theorem dX4_step_23 : decode cX4_step 23 = .ok (.aload_n 0, 1) := by decide +kernel
theorem dX4_step_24 : decode cX4_step 24 = .ok (.aload_n 0, 1) := by decide +kernel
theorem dX4_step_25 : decode cX4_step 25 = .ok (.getfield 9, 3) := by decide +kernel
theorem dX4_step_28 : decode cX4_step 28 = .ok (.aload_n 0, 1) := by decide +kernel
theorem dX4_step_29 : decode cX4_step 29 = .ok (.getfield 35, 3) := by decide +kernel
theorem dX4_step_32 : decode cX4_step 32 = .ok (.iaload, 1) := by decide +kernel
theorem dX4_step_33 : decode cX4_step 33 = .ok (.putfield 44, 3) := by decide +kernel
theorem dX4_step_36 : decode cX4_step 36 = .ok (.aload_n 0, 1) := by decide +kernel
theorem dX4_step_37 : decode cX4_step 37 = .ok (.aload_n 0, 1) := by decide +kernel
theorem dX4_step_38 : decode cX4_step 38 = .ok (.getfield 15, 3) := by decide +kernel
theorem dX4_step_41 : decode cX4_step 41 = .ok (.aload_n 0, 1) := by decide +kernel
theorem dX4_step_42 : decode cX4_step 42 = .ok (.getfield 35, 3) := by decide +kernel
theorem dX4_step_45 : decode cX4_step 45 = .ok (.iaload, 1) := by decide +kernel
theorem dX4_step_46 : decode cX4_step 46 = .ok (.putfield 47, 3) := by decide +kernel
theorem dX4_step_49 : decode cX4_step 49 = .ok (.aload_n 0, 1) := by decide +kernel
theorem dX4_step_50 : decode cX4_step 50 = .ok (.aload_n 0, 1) := by decide +kernel
theorem dX4_step_51 : decode cX4_step 51 = .ok (.getfield 18, 3) := by decide +kernel
theorem dX4_step_54 : decode cX4_step 54 = .ok (.aload_n 0, 1) := by decide +kernel
theorem dX4_step_55 : decode cX4_step 55 = .ok (.getfield 35, 3) := by decide +kernel
theorem dX4_step_58 : decode cX4_step 58 = .ok (.iaload, 1) := by decide +kernel
theorem dX4_step_59 : decode cX4_step 59 = .ok (.putfield 50, 3) := by decide +kernel
theorem dX4_step_62 : decode cX4_step 62 = .ok (.return_, 1) := by decide +kernel
def f_X4_step (a0 : Nat) (σ : mm_S) : Option (mm_S) :=
    if (σ.1 a0 4) ≤ ((σ.1 a0 5) + (1 : Int32)) then
      some σ
    else
      lt (su_i σ a0 5 ((σ.1 a0 5) + (1 : Int32))) fun σ14 =>
      gd (σ14.1 a0 5) 401 <|
      lt (su_i σ14 a0 6 (σ14.1 4 (σ14.1 a0 5).toNatClampNeg)) fun σ17 =>
      gd (σ17.1 a0 5) 401 <|
      lt (su_i σ17 a0 7 (σ17.1 5 (σ17.1 a0 5).toNatClampNeg)) fun σ20 =>
      gd (σ20.1 a0 5) 401 <|
      lt (su_i σ20 a0 8 (σ20.1 6 (σ20.1 a0 5).toNatClampNeg)) fun σ23 =>
      some σ23
theorem v_X4_step {g : mm_G} (d : Nat) {a0 : Nat} {σ : mm_S} {res : mm_S} (h_a0 : (mm_K a0).1 = 4) (h : f_X4_step a0 σ = some res) : SM g (d + 0) yy_X4_step [.ref a0] σ .null res := by
  refine s_of (by decide) (Nat.le_of_ble_eq_true rfl) (L := [(0, .ref a0)]) rfl ?_
  unfold f_X4_step at h
  refine e_aload_n 0 dX4_step_0 rfl rfl ?_
  refine s_geti dX4_step_1 fl_RX4_35 h_a0 ?_
  refine e_iconst (v := (1 : Int32)) dX4_step_4 (by decide) ?_
  refine e_iadd dX4_step_5 ?_
  refine e_aload_n 0 dX4_step_6 rfl rfl ?_
  refine s_geti dX4_step_7 fl_RX4_41 h_a0 ?_
  refine e_icmp_ge 62 dX4_step_10 (by decide) (fun c13 => ?_) (fun c13 => ?_)
  · rw [if_pos c13] at h
    obtain rfl := Option.some.inj h
    exact s_ret rfl rfl dX4_step_62
  · rw [if_neg c13] at h
    refine e_aload_n 0 dX4_step_13 rfl rfl ?_
    refine e_dup dX4_step_14 rfl ?_
    refine s_geti dX4_step_15 fl_RX4_35 h_a0 ?_
    refine e_iconst (v := (1 : Int32)) dX4_step_18 (by decide) ?_
    refine e_iadd dX4_step_19 ?_
    refine s_puti dX4_step_20 fl_RX4_35 h_a0 rfl rfl rfl ?_
    obtain ⟨σ14, q15, h⟩ := lt_some h
    refine s_nms q15 ?_
    refine e_aload_n 0 dX4_step_23 rfl rfl ?_
    refine e_aload_n 0 dX4_step_24 rfl rfl ?_
    refine s_getr dX4_step_25 fl_RX4_9 h_a0 (r_4_1 h_a0).1 ?_
    refine e_aload_n 0 dX4_step_28 rfl rfl ?_
    refine s_geti dX4_step_29 fl_RX4_35 h_a0 ?_
    obtain ⟨q16, h⟩ := gd_some h
    refine s_iald dX4_step_32 (r_4_1 (w := 0) h_a0).2 q16 ?_
    refine s_puti dX4_step_33 fl_RX4_44 h_a0 rfl rfl rfl ?_
    obtain ⟨σ17, q18, h⟩ := lt_some h
    refine s_nms q18 ?_
    refine e_aload_n 0 dX4_step_36 rfl rfl ?_
    refine e_aload_n 0 dX4_step_37 rfl rfl ?_
    refine s_getr dX4_step_38 fl_RX4_15 h_a0 (r_4_2 h_a0).1 ?_
    refine e_aload_n 0 dX4_step_41 rfl rfl ?_
    refine s_geti dX4_step_42 fl_RX4_35 h_a0 ?_
    obtain ⟨q19, h⟩ := gd_some h
    refine s_iald dX4_step_45 (r_4_2 (w := 0) h_a0).2 q19 ?_
    refine s_puti dX4_step_46 fl_RX4_47 h_a0 rfl rfl rfl ?_
    obtain ⟨σ20, q21, h⟩ := lt_some h
    refine s_nms q21 ?_
    refine e_aload_n 0 dX4_step_49 rfl rfl ?_
    refine e_aload_n 0 dX4_step_50 rfl rfl ?_
    refine s_getr dX4_step_51 fl_RX4_18 h_a0 (r_4_3 h_a0).1 ?_
    refine e_aload_n 0 dX4_step_54 rfl rfl ?_
    refine s_geti dX4_step_55 fl_RX4_35 h_a0 ?_
    obtain ⟨q22, h⟩ := gd_some h
    refine s_iald dX4_step_58 (r_4_3 (w := 0) h_a0).2 q22 ?_
    refine s_puti dX4_step_59 fl_RX4_50 h_a0 rfl rfl rfl ?_
    obtain ⟨σ23, q24, h⟩ := lt_some h
    refine s_nms q24 ?_
    obtain rfl := Option.some.inj h
    exact s_ret rfl rfl dX4_step_62
abbrev yy_X4_readFact : mm_Y := (yX4_readFact, cX4_readFact, 6, none)
abbrev yy_X4_readTest : mm_Y := (yX4_readTest, cX4_readTest, 6, none)
theorem dX4_readTest_0 : decode cX4_readTest 0 = .ok (.iconst 0, 1) := by decide +kernel
theorem dX4_readTest_1 : decode cX4_readTest 1 = .ok (.istore_n 3, 1) := by decide +kernel
theorem dX4_readTest_2 : decode cX4_readTest 2 = .ok (.iconst 0, 1) := by decide +kernel
theorem dX4_readTest_3 : decode cX4_readTest 3 = .ok (.istore 4, 2) := by decide +kernel
theorem dX4_readTest_5 : decode cX4_readTest 5 = .ok (.iconst 0, 1) := by decide +kernel
theorem dX4_readTest_6 : decode cX4_readTest 6 = .ok (.istore 5, 2) := by decide +kernel
theorem dX4_readTest_8 : decode cX4_readTest 8 = .ok (.iload 5, 2) := by decide +kernel
theorem dX4_readTest_10 : decode cX4_readTest 10 = .ok (.sipush 400, 3) := by decide +kernel
theorem dX4_readTest_13 : decode cX4_readTest 13 = .ok (.if_icmp .ge 71, 3) := by decide +kernel
theorem dX4_readTest_16 : decode cX4_readTest 16 = .ok (.aload_n 0, 1) := by decide +kernel
theorem dX4_readTest_17 : decode cX4_readTest 17 = .ok (.getfield 28, 3) := by decide +kernel
theorem dX4_readTest_20 : decode cX4_readTest 20 = .ok (.ifCond .ne 64, 3) := by decide +kernel
theorem dX4_readTest_23 : decode cX4_readTest 23 = .ok (.aload_n 0, 1) := by decide +kernel
theorem dX4_readTest_24 : decode cX4_readTest 24 = .ok (.aload_n 1, 1) := by decide +kernel
theorem dX4_readTest_25 : decode cX4_readTest 25 = .ok (.iload_n 2, 1) := by decide +kernel
theorem dX4_readTest_26 : decode cX4_readTest 26 = .ok (.invokevirtual 167, 3) := by decide +kernel
theorem dX4_readTest_29 : decode cX4_readTest 29 = .ok (.iload_n 3, 1) := by decide +kernel
theorem dX4_readTest_30 : decode cX4_readTest 30 = .ok (.ifCond .eq 9, 3) := by decide +kernel
theorem dX4_readTest_33 : decode cX4_readTest 33 = .ok (.aload_n 1, 1) := by decide +kernel
theorem dX4_readTest_34 : decode cX4_readTest 34 = .ok (.bipush 31, 2) := by decide +kernel
theorem dX4_readTest_36 : decode cX4_readTest 36 = .ok (.invokevirtual 164, 3) := by decide +kernel
theorem dX4_readTest_39 : decode cX4_readTest 39 = .ok (.aload_n 0, 1) := by decide +kernel
theorem dX4_readTest_40 : decode cX4_readTest 40 = .ok (.bipush 17, 2) := by decide +kernel
theorem dX4_readTest_42 : decode cX4_readTest 42 = .ok (.invokevirtual 127, 3) := by decide +kernel
theorem dX4_readTest_45 : decode cX4_readTest 45 = .ok (.istore_n 3, 1) := by decide +kernel
theorem dX4_readTest_46 : decode cX4_readTest 46 = .ok (.iload_n 3, 1) := by decide +kernel
theorem dX4_readTest_47 : decode cX4_readTest 47 = .ok (.ifCond .ne 27, 3) := by decide +kernel
theorem dX4_readTest_50 : decode cX4_readTest 50 = .ok (.iload 4, 2) := by decide +kernel
theorem dX4_readTest_52 : decode cX4_readTest 52 = .ok (.ifCond .eq 9, 3) := by decide +kernel
theorem dX4_readTest_55 : decode cX4_readTest 55 = .ok (.aload_n 1, 1) := by decide +kernel
theorem dX4_readTest_56 : decode cX4_readTest 56 = .ok (.bipush 32, 2) := by decide +kernel
theorem dX4_readTest_58 : decode cX4_readTest 58 = .ok (.invokevirtual 164, 3) := by decide +kernel
theorem dX4_readTest_61 : decode cX4_readTest 61 = .ok (.aload_n 0, 1) := by decide +kernel
theorem dX4_readTest_62 : decode cX4_readTest 62 = .ok (.bipush 18, 2) := by decide +kernel
theorem dX4_readTest_64 : decode cX4_readTest 64 = .ok (.invokevirtual 127, 3) := by decide +kernel
theorem dX4_readTest_67 : decode cX4_readTest 67 = .ok (.ifCond .ne 4, 3) := by decide +kernel
theorem dX4_readTest_70 : decode cX4_readTest 70 = .ok (.return_, 1) := by decide +kernel
theorem dX4_readTest_71 : decode cX4_readTest 71 = .ok (.iconst 1, 1) := by decide +kernel
theorem dX4_readTest_72 : decode cX4_readTest 72 = .ok (.istore 4, 2) := by decide +kernel
theorem dX4_readTest_74 : decode cX4_readTest 74 = .ok (.aload_n 0, 1) := by decide +kernel
theorem dX4_readTest_75 : decode cX4_readTest 75 = .ok (.invokevirtual 38, 3) := by decide +kernel
theorem dX4_readTest_78 : decode cX4_readTest 78 = .ok (.iinc 5 1, 3) := by decide +kernel
theorem dX4_readTest_81 : decode cX4_readTest 81 = .ok (.goto (-73), 3) := by decide +kernel
theorem dX4_readTest_84 : decode cX4_readTest 84 = .ok (.return_, 1) := by decide +kernel
def f_X4_readTest_b_61 (rF rT : Nat → Nat → Int32 → mm_S → Option mm_S) (k8 : (Int32 × Int32 × Int32) → mm_S → Option (mm_S)) (a0 : Nat) (a1 : Nat) (i2 : Int32) (i3 : Int32) (i5 : Int32) (σ : mm_S) : Option (mm_S) :=
    bd (f_X4_isWord a0 (18 : Int32) σ) fun r3 σ2 =>
    if r3 = 0 then
      some σ2
    else
      bv (f_X4_step a0 σ2) fun σ6 =>
      lt (i5 + Int32.ofInt (1)) fun x7 =>
      k8 (i3, (1 : Int32), x7) σ6
theorem v_X4_readTest_b_61 {g : mm_G} (d : Nat) {rF rT : Nat → Nat → Int32 → mm_S → Option mm_S} {k8 : (Int32 × Int32 × Int32) → mm_S → Option (mm_S)} {a0 : Nat} {a1 : Nat} {i2 : Int32} {i3 : Int32} {i5 : Int32} {σ : mm_S} {res : mm_S} (HF : ∀ a0 a1 i2 σ res, (mm_K a0).1 = 4 → (mm_K a1).1 = 5 → rF a0 a1 i2 σ = some res → SM g (d + 3) yy_X4_readFact [.ref a0, .ref a1, .int i2] σ .null res) (HT : ∀ a0 a1 i2 σ res, (mm_K a0).1 = 4 → (mm_K a1).1 = 5 → rT a0 a1 i2 σ = some res → SM g (d + 3) yy_X4_readTest [.ref a0, .ref a1, .int i2] σ .null res)  (H8 : ∀ v σ, k8 v σ = some res → SV g (d + 4) yy_X4_readTest 8 [(0, .ref a0), (1, .ref a1), (2, .int i2), (3, .int v.1), (4, .int v.2.1), (5, .int v.2.2)] [] σ .null res) (h_a0 : (mm_K a0).1 = 4) (h_a1 : (mm_K a1).1 = 5) (h : f_X4_readTest_b_61 rF rT k8 a0 a1 i2 i3 i5 σ = some res) : SV g (d + 4) yy_X4_readTest 61 [(0, .ref a0), (1, .ref a1), (2, .int i2), (3, .int i3), (5, .int i5)] [] σ .null res := by
  unfold f_X4_readTest_b_61 at h
  refine e_aload_n 0 dX4_readTest_61 rfl rfl ?_
  refine e_bipush (v := (18 : Int32)) dX4_readTest_62 (by decide) ?_
  obtain ⟨r3, σ2, q1, h⟩ := bd_some h
  refine s_callVi [.int (18 : Int32)] dX4_readTest_64 ml_RX4_127 h_a0 ⟨_, rfl, by decide⟩ rfl (v_X4_isWord (d + 3) h_a0 q1) (Nat.le_of_ble_eq_true rfl) ?_
  refine e_if_ne 71 dX4_readTest_67 (by decide) (fun c4 => ?_) (fun c4 => ?_)
  · rw [if_neg c4] at h
    refine e_iconst (v := (1 : Int32)) dX4_readTest_71 (by decide) ?_
    refine e_istore (L' := [(0, .ref a0), (1, .ref a1), (2, .int i2), (3, .int i3), (4, .int (1 : Int32)), (5, .int i5)]) dX4_readTest_72  (by decide) rfl ?_
    refine e_aload_n 0 dX4_readTest_74 rfl rfl ?_
    obtain ⟨σ6, q5, h⟩ := bv_some h
    refine s_callVv [] dX4_readTest_75 ml_RX4_38 h_a0 rfl rfl (v_X4_step (d + 3) h_a0 q5) (Nat.le_of_ble_eq_true rfl) ?_
    obtain ⟨x7, q8, h⟩ := lt_some h
    refine e_iinc (v := x7) (L' := [(0, .ref a0), (1, .ref a1), (2, .int i2), (3, .int i3), (4, .int (1 : Int32)), (5, .int x7)]) 5 dX4_readTest_78 rfl q8.symm (by decide) rfl ?_
    refine e_goto 8 dX4_readTest_81 (by decide) ?_
    refine s_pick (L' := [(0, .ref a0), (1, .ref a1), (2, .int i2), (3, .int i3), (4, .int (1 : Int32)), (5, .int x7)]) [0, 1, 2, 3, 4, 5] rfl ?_
    exact H8 (i3, (1 : Int32), x7) σ6 h
  · rw [if_pos c4] at h
    obtain rfl := Option.some.inj h
    exact s_ret rfl rfl dX4_readTest_70
def f_X4_readTest_b_39 (rF rT : Nat → Nat → Int32 → mm_S → Option mm_S) (k8 : (Int32 × Int32 × Int32) → mm_S → Option (mm_S)) (a0 : Nat) (a1 : Nat) (i2 : Int32) (i4 : Int32) (i5 : Int32) (σ : mm_S) : Option (mm_S) :=
    bd (f_X4_isWord a0 (17 : Int32) σ) fun r11 σ10 =>
    if r11 = 0 then
      if i4 = 0 then
        f_X4_readTest_b_61 rF rT k8 a0 a1 i2 r11 i5 σ10
      else
        bv (f_X5_add a1 (32 : Int32) σ10) fun σ19 =>
        f_X4_readTest_b_61 rF rT k8 a0 a1 i2 r11 i5 σ19
    else
      bv (f_X4_step a0 σ10) fun σ14 =>
      lt (i5 + Int32.ofInt (1)) fun x15 =>
      k8 (r11, i4, x15) σ14
theorem v_X4_readTest_b_39 {g : mm_G} (d : Nat) {rF rT : Nat → Nat → Int32 → mm_S → Option mm_S} {k8 : (Int32 × Int32 × Int32) → mm_S → Option (mm_S)} {a0 : Nat} {a1 : Nat} {i2 : Int32} {i4 : Int32} {i5 : Int32} {σ : mm_S} {res : mm_S} (HF : ∀ a0 a1 i2 σ res, (mm_K a0).1 = 4 → (mm_K a1).1 = 5 → rF a0 a1 i2 σ = some res → SM g (d + 3) yy_X4_readFact [.ref a0, .ref a1, .int i2] σ .null res) (HT : ∀ a0 a1 i2 σ res, (mm_K a0).1 = 4 → (mm_K a1).1 = 5 → rT a0 a1 i2 σ = some res → SM g (d + 3) yy_X4_readTest [.ref a0, .ref a1, .int i2] σ .null res)  (H8 : ∀ v σ, k8 v σ = some res → SV g (d + 4) yy_X4_readTest 8 [(0, .ref a0), (1, .ref a1), (2, .int i2), (3, .int v.1), (4, .int v.2.1), (5, .int v.2.2)] [] σ .null res) (h_a0 : (mm_K a0).1 = 4) (h_a1 : (mm_K a1).1 = 5) (h : f_X4_readTest_b_39 rF rT k8 a0 a1 i2 i4 i5 σ = some res) : SV g (d + 4) yy_X4_readTest 39 [(0, .ref a0), (1, .ref a1), (2, .int i2), (4, .int i4), (5, .int i5)] [] σ .null res := by
  unfold f_X4_readTest_b_39 at h
  refine e_aload_n 0 dX4_readTest_39 rfl rfl ?_
  refine e_bipush (v := (17 : Int32)) dX4_readTest_40 (by decide) ?_
  obtain ⟨r11, σ10, q9, h⟩ := bd_some h
  refine s_callVi [.int (17 : Int32)] dX4_readTest_42 ml_RX4_127 h_a0 ⟨_, rfl, by decide⟩ rfl (v_X4_isWord (d + 3) h_a0 q9) (Nat.le_of_ble_eq_true rfl) ?_
  refine e_istore_n (L' := [(0, .ref a0), (1, .ref a1), (2, .int i2), (3, .int r11), (4, .int i4), (5, .int i5)]) dX4_readTest_45 rfl (by decide) rfl ?_
  refine e_iload_n 3 dX4_readTest_46 rfl rfl ?_
  refine e_if_ne 74 dX4_readTest_47 (by decide) (fun c12 => ?_) (fun c12 => ?_)
  · rw [if_neg c12] at h
    refine e_aload_n 0 dX4_readTest_74 rfl rfl ?_
    obtain ⟨σ14, q13, h⟩ := bv_some h
    refine s_callVv [] dX4_readTest_75 ml_RX4_38 h_a0 rfl rfl (v_X4_step (d + 3) h_a0 q13) (Nat.le_of_ble_eq_true rfl) ?_
    obtain ⟨x15, q16, h⟩ := lt_some h
    refine e_iinc (v := x15) (L' := [(0, .ref a0), (1, .ref a1), (2, .int i2), (3, .int r11), (4, .int i4), (5, .int x15)]) 5 dX4_readTest_78 rfl q16.symm (by decide) rfl ?_
    refine e_goto 8 dX4_readTest_81 (by decide) ?_
    refine s_pick (L' := [(0, .ref a0), (1, .ref a1), (2, .int i2), (3, .int r11), (4, .int i4), (5, .int x15)]) [0, 1, 2, 3, 4, 5] rfl ?_
    exact H8 (r11, i4, x15) σ14 h
  · rw [if_pos c12] at h
    refine e_iload 4 dX4_readTest_50  rfl ?_
    refine e_if_eq 61 dX4_readTest_52 (by decide) (fun c17 => ?_) (fun c17 => ?_)
    · rw [if_pos c17] at h
      refine s_pick (L' := [(0, .ref a0), (1, .ref a1), (2, .int i2), (3, .int r11), (5, .int i5)]) [0, 1, 2, 3, 5] rfl ?_
      exact v_X4_readTest_b_61 d HF HT H8 h_a0 h_a1 h
    · rw [if_neg c17] at h
      refine e_aload_n 1 dX4_readTest_55 rfl rfl ?_
      refine e_bipush (v := (32 : Int32)) dX4_readTest_56 (by decide) ?_
      obtain ⟨σ19, q18, h⟩ := bv_some h
      refine s_callVv [.int (32 : Int32)] dX4_readTest_58 ml_RX4_164 h_a1 rfl rfl (v_X5_add (d + 3) h_a1 q18) (Nat.le_of_ble_eq_true rfl) ?_
      refine s_pick (L' := [(0, .ref a0), (1, .ref a1), (2, .int i2), (3, .int r11), (5, .int i5)]) [0, 1, 2, 3, 5] rfl ?_
      exact v_X4_readTest_b_61 d HF HT H8 h_a0 h_a1 h
def f_X4_readTest_b_8 (rF rT : Nat → Nat → Int32 → mm_S → Option mm_S) (a0 : Nat) (a1 : Nat) (i2 : Int32) (i3 : Int32) (i4 : Int32) (i5 : Int32) (σ : mm_S) : Option (mm_S) :=
  lp lpN (fun (k8 : (Int32 × Int32 × Int32) → mm_S → Option (mm_S)) (v : Int32 × Int32 × Int32) (σ : mm_S) =>
    if (400 : Int32) ≤ v.2.2 then
      some σ
    else
      if (σ.1 a0 9) = 0 then
        bv (rF a0 a1 i2 σ) fun σ23 =>
        if v.1 = 0 then
          f_X4_readTest_b_39 rF rT k8 a0 a1 i2 v.2.1 v.2.2 σ23
        else
          bv (f_X5_add a1 (31 : Int32) σ23) fun σ26 =>
          f_X4_readTest_b_39 rF rT k8 a0 a1 i2 v.2.1 v.2.2 σ26
      else
        some σ) (i3, i4, i5) σ
theorem v_X4_readTest_b_8 {g : mm_G} (d : Nat) {rF rT : Nat → Nat → Int32 → mm_S → Option mm_S} {a0 : Nat} {a1 : Nat} {i2 : Int32} {i3 : Int32} {i4 : Int32} {i5 : Int32} {σ : mm_S} {res : mm_S} (HF : ∀ a0 a1 i2 σ res, (mm_K a0).1 = 4 → (mm_K a1).1 = 5 → rF a0 a1 i2 σ = some res → SM g (d + 3) yy_X4_readFact [.ref a0, .ref a1, .int i2] σ .null res) (HT : ∀ a0 a1 i2 σ res, (mm_K a0).1 = 4 → (mm_K a1).1 = 5 → rT a0 a1 i2 σ = some res → SM g (d + 3) yy_X4_readTest [.ref a0, .ref a1, .int i2] σ .null res)  (h_a0 : (mm_K a0).1 = 4) (h_a1 : (mm_K a1).1 = 5) (h : f_X4_readTest_b_8 rF rT a0 a1 i2 i3 i4 i5 σ = some res) : SV g (d + 4) yy_X4_readTest 8 [(0, .ref a0), (1, .ref a1), (2, .int i2), (3, .int i3), (4, .int i4), (5, .int i5)] [] σ .null res := by
  unfold f_X4_readTest_b_8 at h
  refine lp_ind (P := fun v σ => SV g (d + 4) yy_X4_readTest 8 [(0, .ref a0), (1, .ref a1), (2, .int i2), (3, .int v.1), (4, .int v.2.1), (5, .int v.2.2)] [] σ .null res) (fun k8 H8 v σ h => ?_) _ (i3, i4, i5) σ h
  refine e_iload 5 dX4_readTest_8  rfl ?_
  refine e_sipush (v := (400 : Int32)) dX4_readTest_10 (by decide) ?_
  refine e_icmp_ge 84 dX4_readTest_13 (by decide) (fun c20 => ?_) (fun c20 => ?_)
  · rw [if_pos c20] at h
    obtain rfl := Option.some.inj h
    exact s_ret rfl rfl dX4_readTest_84
  · rw [if_neg c20] at h
    refine e_aload_n 0 dX4_readTest_16 rfl rfl ?_
    refine s_geti dX4_readTest_17 fl_RX4_28 h_a0 ?_
    refine e_if_ne 84 dX4_readTest_20 (by decide) (fun c21 => ?_) (fun c21 => ?_)
    · rw [if_neg c21] at h
      obtain rfl := Option.some.inj h
      exact s_ret rfl rfl dX4_readTest_84
    · rw [if_pos c21] at h
      refine e_aload_n 0 dX4_readTest_23 rfl rfl ?_
      refine e_aload_n 1 dX4_readTest_24 rfl rfl ?_
      refine e_iload_n 2 dX4_readTest_25 rfl rfl ?_
      obtain ⟨σ23, q22, h⟩ := bv_some h
      refine s_callVv [.ref a1, .int i2] dX4_readTest_26 ml_RX4_167 h_a0 rfl rfl (HF _ _ _ _ _ h_a0 h_a1 q22) (Nat.le_of_ble_eq_true rfl) ?_
      refine e_iload_n 3 dX4_readTest_29 rfl rfl ?_
      refine e_if_eq 39 dX4_readTest_30 (by decide) (fun c24 => ?_) (fun c24 => ?_)
      · rw [if_pos c24] at h
        refine s_pick (L' := [(0, .ref a0), (1, .ref a1), (2, .int i2), (4, .int v.2.1), (5, .int v.2.2)]) [0, 1, 2, 4, 5] rfl ?_
        exact v_X4_readTest_b_39 d HF HT H8 h_a0 h_a1 h
      · rw [if_neg c24] at h
        refine e_aload_n 1 dX4_readTest_33 rfl rfl ?_
        refine e_bipush (v := (31 : Int32)) dX4_readTest_34 (by decide) ?_
        obtain ⟨σ26, q25, h⟩ := bv_some h
        refine s_callVv [.int (31 : Int32)] dX4_readTest_36 ml_RX4_164 h_a1 rfl rfl (v_X5_add (d + 3) h_a1 q25) (Nat.le_of_ble_eq_true rfl) ?_
        refine s_pick (L' := [(0, .ref a0), (1, .ref a1), (2, .int i2), (4, .int v.2.1), (5, .int v.2.2)]) [0, 1, 2, 4, 5] rfl ?_
        exact v_X4_readTest_b_39 d HF HT H8 h_a0 h_a1 h
def f_X4_readTest_b (rF rT : Nat → Nat → Int32 → mm_S → Option mm_S) (a0 : Nat) (a1 : Nat) (i2 : Int32) (σ : mm_S) : Option (mm_S) :=
    f_X4_readTest_b_8 rF rT a0 a1 i2 (0 : Int32) (0 : Int32) (0 : Int32) σ
theorem v_X4_readTest_b {g : mm_G} (d : Nat) {rF rT : Nat → Nat → Int32 → mm_S → Option mm_S} {a0 : Nat} {a1 : Nat} {i2 : Int32} {σ : mm_S} {res : mm_S} (HF : ∀ a0 a1 i2 σ res, (mm_K a0).1 = 4 → (mm_K a1).1 = 5 → rF a0 a1 i2 σ = some res → SM g (d + 3) yy_X4_readFact [.ref a0, .ref a1, .int i2] σ .null res) (HT : ∀ a0 a1 i2 σ res, (mm_K a0).1 = 4 → (mm_K a1).1 = 5 → rT a0 a1 i2 σ = some res → SM g (d + 3) yy_X4_readTest [.ref a0, .ref a1, .int i2] σ .null res) (h_a0 : (mm_K a0).1 = 4) (h_a1 : (mm_K a1).1 = 5) (h : f_X4_readTest_b rF rT a0 a1 i2 σ = some res) : SM g (d + 4) yy_X4_readTest [.ref a0, .ref a1, .int i2] σ .null res := by
  refine s_of (by decide) (Nat.le_of_ble_eq_true rfl) (L := [(0, .ref a0), (1, .ref a1), (2, .int i2)]) rfl ?_
  unfold f_X4_readTest_b at h
  refine e_iconst (v := (0 : Int32)) dX4_readTest_0 (by decide) ?_
  refine e_istore_n (L' := [(0, .ref a0), (1, .ref a1), (2, .int i2), (3, .int (0 : Int32))]) dX4_readTest_1 rfl (by decide) rfl ?_
  refine e_iconst (v := (0 : Int32)) dX4_readTest_2 (by decide) ?_
  refine e_istore (L' := [(0, .ref a0), (1, .ref a1), (2, .int i2), (3, .int (0 : Int32)), (4, .int (0 : Int32))]) dX4_readTest_3  (by decide) rfl ?_
  refine e_iconst (v := (0 : Int32)) dX4_readTest_5 (by decide) ?_
  refine e_istore (L' := [(0, .ref a0), (1, .ref a1), (2, .int i2), (3, .int (0 : Int32)), (4, .int (0 : Int32)), (5, .int (0 : Int32))]) dX4_readTest_6  (by decide) rfl ?_
  refine s_pick (L' := [(0, .ref a0), (1, .ref a1), (2, .int i2), (3, .int (0 : Int32)), (4, .int (0 : Int32)), (5, .int (0 : Int32))]) [0, 1, 2, 3, 4, 5] rfl ?_
  exact v_X4_readTest_b_8 d HF HT h_a0 h_a1 h
abbrev yy_X4_isSign : mm_Y := (yX4_isSign, cX4_isSign, 2, (some .boolean))
theorem dX4_isSign_0 : decode cX4_isSign 0 = .ok (.aload_n 0, 1) := by decide +kernel
theorem dX4_isSign_1 : decode cX4_isSign 1 = .ok (.getfield 44, 3) := by decide +kernel
theorem dX4_isSign_4 : decode cX4_isSign 4 = .ok (.iconst 3, 1) := by decide +kernel
theorem dX4_isSign_5 : decode cX4_isSign 5 = .ok (.if_icmp .ne 15, 3) := by decide +kernel
theorem dX4_isSign_8 : decode cX4_isSign 8 = .ok (.aload_n 0, 1) := by decide +kernel
theorem dX4_isSign_9 : decode cX4_isSign 9 = .ok (.getfield 47, 3) := by decide +kernel
theorem dX4_isSign_12 : decode cX4_isSign 12 = .ok (.iload_n 1, 1) := by decide +kernel
theorem dX4_isSign_13 : decode cX4_isSign 13 = .ok (.if_icmp .ne 7, 3) := by decide +kernel
theorem dX4_isSign_16 : decode cX4_isSign 16 = .ok (.iconst 1, 1) := by decide +kernel
theorem dX4_isSign_17 : decode cX4_isSign 17 = .ok (.goto 4, 3) := by decide +kernel
theorem dX4_isSign_20 : decode cX4_isSign 20 = .ok (.iconst 0, 1) := by decide +kernel
theorem dX4_isSign_21 : decode cX4_isSign 21 = .ok (.ireturn, 1) := by decide +kernel
def f_X4_isSign (a0 : Nat) (i1 : Int32) (σ : mm_S) : Option (Int32 × mm_S) :=
    if (σ.1 a0 6) = (3 : Int32) then
      if (σ.1 a0 7) = i1 then
        some ((1 : Int32), σ)
      else
        some ((0 : Int32), σ)
    else
      some ((0 : Int32), σ)
theorem v_X4_isSign {g : mm_G} (d : Nat) {a0 : Nat} {i1 : Int32} {σ : mm_S} {res : Int32 × mm_S} (h_a0 : (mm_K a0).1 = 4) (h : f_X4_isSign a0 i1 σ = some res) : SM g (d + 0) yy_X4_isSign [.ref a0, .int i1] σ (.int res.1) res.2 := by
  refine s_of (by decide) (Nat.le_of_ble_eq_true rfl) (L := [(0, .ref a0), (1, .int i1)]) rfl ?_
  unfold f_X4_isSign at h
  refine e_aload_n 0 dX4_isSign_0 rfl rfl ?_
  refine s_geti dX4_isSign_1 fl_RX4_44 h_a0 ?_
  refine e_iconst (v := (3 : Int32)) dX4_isSign_4 (by decide) ?_
  refine e_icmp_ne 20 dX4_isSign_5 (by decide) (fun c3 => ?_) (fun c3 => ?_)
  · rw [if_neg c3] at h
    refine e_iconst (v := (0 : Int32)) dX4_isSign_20 (by decide) ?_
    obtain rfl := Option.some.inj h
    exact s_ret rfl ⟨_, rfl, nb1 (Or.inl rfl)⟩ dX4_isSign_21
  · rw [if_pos c3] at h
    refine e_aload_n 0 dX4_isSign_8 rfl rfl ?_
    refine s_geti dX4_isSign_9 fl_RX4_47 h_a0 ?_
    refine e_iload_n 1 dX4_isSign_12 rfl rfl ?_
    refine e_icmp_ne 20 dX4_isSign_13 (by decide) (fun c4 => ?_) (fun c4 => ?_)
    · rw [if_neg c4] at h
      refine e_iconst (v := (0 : Int32)) dX4_isSign_20 (by decide) ?_
      obtain rfl := Option.some.inj h
      exact s_ret rfl ⟨_, rfl, nb1 (Or.inl rfl)⟩ dX4_isSign_21
    · rw [if_pos c4] at h
      refine e_iconst (v := (1 : Int32)) dX4_isSign_16 (by decide) ?_
      refine e_goto 21 dX4_isSign_17 (by decide) ?_
      obtain rfl := Option.some.inj h
      exact s_ret rfl ⟨_, rfl, nb1 (Or.inr rfl)⟩ dX4_isSign_21
abbrev yy_X4_fail : mm_Y := (yX4_fail, cX4_fail, 2, none)
theorem dX4_fail_0 : decode cX4_fail 0 = .ok (.aload_n 0, 1) := by decide +kernel
theorem dX4_fail_1 : decode cX4_fail 1 = .ok (.getfield 28, 3) := by decide +kernel
theorem dX4_fail_4 : decode cX4_fail 4 = .ok (.ifCond .ne 18, 3) := by decide +kernel
theorem dX4_fail_7 : decode cX4_fail 7 = .ok (.aload_n 0, 1) := by decide +kernel
theorem dX4_fail_8 : decode cX4_fail 8 = .ok (.iconst 1, 1) := by decide +kernel
theorem dX4_fail_9 : decode cX4_fail 9 = .ok (.bipush 8, 2) := by decide +kernel
theorem dX4_fail_11 : decode cX4_fail 11 = .ok (.aload_n 0, 1) := by decide +kernel
theorem dX4_fail_12 : decode cX4_fail 12 = .ok (.getfield 50, 3) := by decide +kernel
theorem dX4_fail_15 : decode cX4_fail 15 = .ok (.imul, 1) := by decide +kernel
theorem dX4_fail_16 : decode cX4_fail 16 = .ok (.iadd, 1) := by decide +kernel
theorem dX4_fail_17 : decode cX4_fail 17 = .ok (.iload_n 1, 1) := by decide +kernel
theorem dX4_fail_18 : decode cX4_fail 18 = .ok (.iadd, 1) := by decide +kernel
theorem dX4_fail_19 : decode cX4_fail 19 = .ok (.putfield 28, 3) := by decide +kernel
theorem dX4_fail_22 : decode cX4_fail 22 = .ok (.return_, 1) := by decide +kernel
def f_X4_fail (a0 : Nat) (i1 : Int32) (σ : mm_S) : Option (mm_S) :=
    if (σ.1 a0 9) = 0 then
      lt (su_i σ a0 9 (((1 : Int32) + ((8 : Int32) * (σ.1 a0 8))) + i1)) fun σ5 =>
      some σ5
    else
      some σ
theorem v_X4_fail {g : mm_G} (d : Nat) {a0 : Nat} {i1 : Int32} {σ : mm_S} {res : mm_S} (h_a0 : (mm_K a0).1 = 4) (h : f_X4_fail a0 i1 σ = some res) : SM g (d + 0) yy_X4_fail [.ref a0, .int i1] σ .null res := by
  refine s_of (by decide) (Nat.le_of_ble_eq_true rfl) (L := [(0, .ref a0), (1, .int i1)]) rfl ?_
  unfold f_X4_fail at h
  refine e_aload_n 0 dX4_fail_0 rfl rfl ?_
  refine s_geti dX4_fail_1 fl_RX4_28 h_a0 ?_
  refine e_if_ne 22 dX4_fail_4 (by decide) (fun c4 => ?_) (fun c4 => ?_)
  · rw [if_neg c4] at h
    obtain rfl := Option.some.inj h
    exact s_ret rfl rfl dX4_fail_22
  · rw [if_pos c4] at h
    refine e_aload_n 0 dX4_fail_7 rfl rfl ?_
    refine e_iconst (v := (1 : Int32)) dX4_fail_8 (by decide) ?_
    refine e_bipush (v := (8 : Int32)) dX4_fail_9 (by decide) ?_
    refine e_aload_n 0 dX4_fail_11 rfl rfl ?_
    refine s_geti dX4_fail_12 fl_RX4_50 h_a0 ?_
    refine e_imul dX4_fail_15 ?_
    refine e_iadd dX4_fail_16 ?_
    refine e_iload_n 1 dX4_fail_17 rfl rfl ?_
    refine e_iadd dX4_fail_18 ?_
    refine s_puti dX4_fail_19 fl_RX4_28 h_a0 rfl rfl rfl ?_
    obtain ⟨σ5, q6, h⟩ := lt_some h
    refine s_nms q6 ?_
    obtain rfl := Option.some.inj h
    exact s_ret rfl rfl dX4_fail_22
abbrev yy_X4_countPart : mm_Y := (yX4_countPart, cX4_countPart, 1, none)
theorem dX4_countPart_0 : decode cX4_countPart 0 = .ok (.aload_n 0, 1) := by decide +kernel
theorem dX4_countPart_1 : decode cX4_countPart 1 = .ok (.dup, 1) := by decide +kernel
theorem dX4_countPart_2 : decode cX4_countPart 2 = .ok (.getfield 32, 3) := by decide +kernel
theorem dX4_countPart_5 : decode cX4_countPart 5 = .ok (.iconst 1, 1) := by decide +kernel
theorem dX4_countPart_6 : decode cX4_countPart 6 = .ok (.iadd, 1) := by decide +kernel
theorem dX4_countPart_7 : decode cX4_countPart 7 = .ok (.putfield 32, 3) := by decide +kernel
theorem dX4_countPart_10 : decode cX4_countPart 10 = .ok (.aload_n 0, 1) := by decide +kernel
theorem dX4_countPart_11 : decode cX4_countPart 11 = .ok (.getfield 32, 3) := by decide +kernel
theorem dX4_countPart_14 : decode cX4_countPart 14 = .ok (.bipush 60, 2) := by decide +kernel
theorem dX4_countPart_16 : decode cX4_countPart 16 = .ok (.if_icmp .le 8, 3) := by decide +kernel
theorem dX4_countPart_19 : decode cX4_countPart 19 = .ok (.aload_n 0, 1) := by decide +kernel
theorem dX4_countPart_20 : decode cX4_countPart 20 = .ok (.iconst 3, 1) := by decide +kernel
theorem dX4_countPart_21 : decode cX4_countPart 21 = .ok (.invokevirtual 123, 3) := by decide +kernel
theorem dX4_countPart_24 : decode cX4_countPart 24 = .ok (.return_, 1) := by decide +kernel
def f_X4_countPart (a0 : Nat) (σ : mm_S) : Option (mm_S) :=
    lt (su_i σ a0 10 ((σ.1 a0 10) + (1 : Int32))) fun σ6 =>
    if (σ6.1 a0 10) ≤ (60 : Int32) then
      some σ6
    else
      bv (f_X4_fail a0 (3 : Int32) σ6) fun σ10 =>
      some σ10
theorem v_X4_countPart {g : mm_G} (d : Nat) {a0 : Nat} {σ : mm_S} {res : mm_S} (h_a0 : (mm_K a0).1 = 4) (h : f_X4_countPart a0 σ = some res) : SM g (d + 1) yy_X4_countPart [.ref a0] σ .null res := by
  refine s_of (by decide) (Nat.le_of_ble_eq_true rfl) (L := [(0, .ref a0)]) rfl ?_
  unfold f_X4_countPart at h
  refine e_aload_n 0 dX4_countPart_0 rfl rfl ?_
  refine e_dup dX4_countPart_1 rfl ?_
  refine s_geti dX4_countPart_2 fl_RX4_32 h_a0 ?_
  refine e_iconst (v := (1 : Int32)) dX4_countPart_5 (by decide) ?_
  refine e_iadd dX4_countPart_6 ?_
  refine s_puti dX4_countPart_7 fl_RX4_32 h_a0 rfl rfl rfl ?_
  obtain ⟨σ6, q7, h⟩ := lt_some h
  refine s_nms q7 ?_
  refine e_aload_n 0 dX4_countPart_10 rfl rfl ?_
  refine s_geti dX4_countPart_11 fl_RX4_32 h_a0 ?_
  refine e_bipush (v := (60 : Int32)) dX4_countPart_14 (by decide) ?_
  refine e_icmp_le 24 dX4_countPart_16 (by decide) (fun c8 => ?_) (fun c8 => ?_)
  · rw [if_pos c8] at h
    obtain rfl := Option.some.inj h
    exact s_ret rfl rfl dX4_countPart_24
  · rw [if_neg c8] at h
    refine e_aload_n 0 dX4_countPart_19 rfl rfl ?_
    refine e_iconst (v := (3 : Int32)) dX4_countPart_20 (by decide) ?_
    obtain ⟨σ10, q9, h⟩ := bv_some h
    refine s_callVv [.int (3 : Int32)] dX4_countPart_21 ml_RX4_123 h_a0 rfl rfl (v_X4_fail (d + 0) h_a0 q9) (Nat.le_of_ble_eq_true rfl) ?_
    obtain rfl := Option.some.inj h
    exact s_ret rfl rfl dX4_countPart_24
abbrev yy_X4_readValue : mm_Y := (yX4_readValue, cX4_readValue, 3, none)
theorem dX4_readValue_0 : decode cX4_readValue 0 = .ok (.aload_n 0, 1) := by decide +kernel
theorem dX4_readValue_1 : decode cX4_readValue 1 = .ok (.getfield 44, 3) := by decide +kernel
theorem dX4_readValue_4 : decode cX4_readValue 4 = .ok (.iconst 1, 1) := by decide +kernel
theorem dX4_readValue_5 : decode cX4_readValue 5 = .ok (.if_icmp .ne 23, 3) := by decide +kernel
theorem dX4_readValue_8 : decode cX4_readValue 8 = .ok (.aload_n 0, 1) := by decide +kernel
theorem dX4_readValue_9 : decode cX4_readValue 9 = .ok (.getfield 47, 3) := by decide +kernel
theorem dX4_readValue_12 : decode cX4_readValue 12 = .ok (.ifCond .lt 16, 3) := by decide +kernel
theorem dX4_readValue_15 : decode cX4_readValue 15 = .ok (.aload_n 0, 1) := by decide +kernel
theorem dX4_readValue_16 : decode cX4_readValue 16 = .ok (.getfield 47, 3) := by decide +kernel
theorem dX4_readValue_19 : decode cX4_readValue 19 = .ok (.bipush 13, 2) := by decide +kernel
theorem dX4_readValue_21 : decode cX4_readValue 21 = .ok (.if_icmp .ge 7, 3) := by decide +kernel
theorem dX4_readValue_24 : decode cX4_readValue 24 = .ok (.iconst 1, 1) := by decide +kernel
theorem dX4_readValue_25 : decode cX4_readValue 25 = .ok (.goto 4, 3) := by decide +kernel
theorem dX4_readValue_28 : decode cX4_readValue 28 = .ok (.iconst 0, 1) := by decide +kernel
theorem dX4_readValue_29 : decode cX4_readValue 29 = .ok (.istore_n 2, 1) := by decide +kernel
theorem dX4_readValue_30 : decode cX4_readValue 30 = .ok (.aload_n 0, 1) := by decide +kernel
theorem dX4_readValue_31 : decode cX4_readValue 31 = .ok (.getfield 44, 3) := by decide +kernel
theorem dX4_readValue_34 : decode cX4_readValue 34 = .ok (.iconst 2, 1) := by decide +kernel
theorem dX4_readValue_35 : decode cX4_readValue 35 = .ok (.if_icmp .eq 15, 3) := by decide +kernel
theorem dX4_readValue_38 : decode cX4_readValue 38 = .ok (.iload_n 2, 1) := by decide +kernel
theorem dX4_readValue_39 : decode cX4_readValue 39 = .ok (.ifCond .ne 11, 3) := by decide +kernel
theorem dX4_readValue_42 : decode cX4_readValue 42 = .ok (.aload_n 0, 1) := by decide +kernel
theorem dX4_readValue_43 : decode cX4_readValue 43 = .ok (.iconst 0, 1) := by decide +kernel
theorem dX4_readValue_44 : decode cX4_readValue 44 = .ok (.invokevirtual 123, 3) := by decide +kernel
theorem dX4_readValue_47 : decode cX4_readValue 47 = .ok (.goto 15, 3) := by decide +kernel
theorem dX4_readValue_50 : decode cX4_readValue 50 = .ok (.aload_n 0, 1) := by decide +kernel
theorem dX4_readValue_51 : decode cX4_readValue 51 = .ok (.getfield 47, 3) := by decide +kernel
theorem dX4_readValue_54 : decode cX4_readValue 54 = .ok (.ifCond .ge 8, 3) := by decide +kernel
theorem dX4_readValue_57 : decode cX4_readValue 57 = .ok (.aload_n 0, 1) := by decide +kernel
theorem dX4_readValue_58 : decode cX4_readValue 58 = .ok (.iconst 1, 1) := by decide +kernel
theorem dX4_readValue_59 : decode cX4_readValue 59 = .ok (.invokevirtual 123, 3) := by decide +kernel
theorem dX4_readValue_62 : decode cX4_readValue 62 = .ok (.aload_n 0, 1) := by decide +kernel
theorem dX4_readValue_63 : decode cX4_readValue 63 = .ok (.invokevirtual 170, 3) := by decide +kernel
theorem dX4_readValue_66 : decode cX4_readValue 66 = .ok (.aload_n 1, 1) := by decide +kernel
theorem dX4_readValue_67 : decode cX4_readValue 67 = .ok (.aload_n 0, 1) := by decide +kernel
theorem dX4_readValue_68 : decode cX4_readValue 68 = .ok (.getfield 44, 3) := by decide +kernel
theorem dX4_readValue_71 : decode cX4_readValue 71 = .ok (.iconst 2, 1) := by decide +kernel
theorem dX4_readValue_72 : decode cX4_readValue 72 = .ok (.if_icmp .ne 13, 3) := by decide +kernel
theorem dX4_readValue_75 : decode cX4_readValue 75 = .ok (.bipush 40, 2) := by decide +kernel
theorem dX4_readValue_77 : decode cX4_readValue 77 = .ok (.aload_n 0, 1) := by decide +kernel
theorem dX4_readValue_78 : decode cX4_readValue 78 = .ok (.getfield 47, 3) := by decide +kernel
theorem dX4_readValue_81 : decode cX4_readValue 81 = .ok (.iadd, 1) := by decide +kernel
theorem dX4_readValue_82 : decode cX4_readValue 82 = .ok (.goto 7, 3) := by decide +kernel
theorem dX4_readValue_85 : decode cX4_readValue 85 = .ok (.aload_n 0, 1) := by decide +kernel
theorem dX4_readValue_86 : decode cX4_readValue 86 = .ok (.getfield 47, 3) := by decide +kernel
theorem dX4_readValue_89 : decode cX4_readValue 89 = .ok (.invokevirtual 164, 3) := by decide +kernel
theorem dX4_readValue_92 : decode cX4_readValue 92 = .ok (.aload_n 0, 1) := by decide +kernel
theorem dX4_readValue_93 : decode cX4_readValue 93 = .ok (.invokevirtual 38, 3) := by decide +kernel
theorem dX4_readValue_96 : decode cX4_readValue 96 = .ok (.return_, 1) := by decide +kernel
def f_X4_readValue_62 (a0 : Nat) (a1 : Nat) (σ : mm_S) : Option (mm_S) :=
    bv (f_X4_countPart a0 σ) fun σ2 =>
    if (σ2.1 a0 6) = (2 : Int32) then
      bv (f_X5_add a1 ((40 : Int32) + (σ2.1 a0 7)) σ2) fun σ9 =>
      bv (f_X4_step a0 σ9) fun σ11 =>
      some σ11
    else
      bv (f_X5_add a1 (σ2.1 a0 7) σ2) fun σ5 =>
      bv (f_X4_step a0 σ5) fun σ7 =>
      some σ7
theorem v_X4_readValue_62 {g : mm_G} (d : Nat) {a0 : Nat} {a1 : Nat} {σ : mm_S} {res : mm_S}  (h_a0 : (mm_K a0).1 = 4) (h_a1 : (mm_K a1).1 = 5) (h : f_X4_readValue_62 a0 a1 σ = some res) : SV g (d + 2) yy_X4_readValue 62 [(0, .ref a0), (1, .ref a1)] [] σ .null res := by
  unfold f_X4_readValue_62 at h
  refine e_aload_n 0 dX4_readValue_62 rfl rfl ?_
  obtain ⟨σ2, q1, h⟩ := bv_some h
  refine s_callVv [] dX4_readValue_63 ml_RX4_170 h_a0 rfl rfl (v_X4_countPart (d + 0) h_a0 q1) (Nat.le_of_ble_eq_true rfl) ?_
  refine e_aload_n 1 dX4_readValue_66 rfl rfl ?_
  refine e_aload_n 0 dX4_readValue_67 rfl rfl ?_
  refine s_geti dX4_readValue_68 fl_RX4_44 h_a0 ?_
  refine e_iconst (v := (2 : Int32)) dX4_readValue_71 (by decide) ?_
  refine e_icmp_ne 85 dX4_readValue_72 (by decide) (fun c3 => ?_) (fun c3 => ?_)
  · rw [if_neg c3] at h
    refine e_aload_n 0 dX4_readValue_85 rfl rfl ?_
    refine s_geti dX4_readValue_86 fl_RX4_47 h_a0 ?_
    obtain ⟨σ5, q4, h⟩ := bv_some h
    refine s_callVv [.int (σ2.1 a0 7)] dX4_readValue_89 ml_RX4_164 h_a1 rfl rfl (v_X5_add (d + 1) h_a1 q4) (Nat.le_of_ble_eq_true rfl) ?_
    refine e_aload_n 0 dX4_readValue_92 rfl rfl ?_
    obtain ⟨σ7, q6, h⟩ := bv_some h
    refine s_callVv [] dX4_readValue_93 ml_RX4_38 h_a0 rfl rfl (v_X4_step (d + 1) h_a0 q6) (Nat.le_of_ble_eq_true rfl) ?_
    obtain rfl := Option.some.inj h
    exact s_ret rfl rfl dX4_readValue_96
  · rw [if_pos c3] at h
    refine e_bipush (v := (40 : Int32)) dX4_readValue_75 (by decide) ?_
    refine e_aload_n 0 dX4_readValue_77 rfl rfl ?_
    refine s_geti dX4_readValue_78 fl_RX4_47 h_a0 ?_
    refine e_iadd dX4_readValue_81 ?_
    refine e_goto 89 dX4_readValue_82 (by decide) ?_
    obtain ⟨σ9, q8, h⟩ := bv_some h
    refine s_callVv [.int ((40 : Int32) + (σ2.1 a0 7))] dX4_readValue_89 ml_RX4_164 h_a1 rfl rfl (v_X5_add (d + 1) h_a1 q8) (Nat.le_of_ble_eq_true rfl) ?_
    refine e_aload_n 0 dX4_readValue_92 rfl rfl ?_
    obtain ⟨σ11, q10, h⟩ := bv_some h
    refine s_callVv [] dX4_readValue_93 ml_RX4_38 h_a0 rfl rfl (v_X4_step (d + 1) h_a0 q10) (Nat.le_of_ble_eq_true rfl) ?_
    obtain rfl := Option.some.inj h
    exact s_ret rfl rfl dX4_readValue_96
def f_X4_readValue_50 (a0 : Nat) (a1 : Nat) (σ : mm_S) : Option (mm_S) :=
    if 0 ≤ (σ.1 a0 7) then
      f_X4_readValue_62 a0 a1 σ
    else
      bv (f_X4_fail a0 (1 : Int32) σ) fun σ14 =>
      f_X4_readValue_62 a0 a1 σ14
theorem v_X4_readValue_50 {g : mm_G} (d : Nat) {a0 : Nat} {a1 : Nat} {σ : mm_S} {res : mm_S}  (h_a0 : (mm_K a0).1 = 4) (h_a1 : (mm_K a1).1 = 5) (h : f_X4_readValue_50 a0 a1 σ = some res) : SV g (d + 2) yy_X4_readValue 50 [(0, .ref a0), (1, .ref a1)] [] σ .null res := by
  unfold f_X4_readValue_50 at h
  refine e_aload_n 0 dX4_readValue_50 rfl rfl ?_
  refine s_geti dX4_readValue_51 fl_RX4_47 h_a0 ?_
  refine e_if_ge 62 dX4_readValue_54 (by decide) (fun c12 => ?_) (fun c12 => ?_)
  · rw [if_pos c12] at h
    refine s_pick (L' := [(0, .ref a0), (1, .ref a1)]) [0, 1] rfl ?_
    exact v_X4_readValue_62 d h_a0 h_a1 h
  · rw [if_neg c12] at h
    refine e_aload_n 0 dX4_readValue_57 rfl rfl ?_
    refine e_iconst (v := (1 : Int32)) dX4_readValue_58 (by decide) ?_
    obtain ⟨σ14, q13, h⟩ := bv_some h
    refine s_callVv [.int (1 : Int32)] dX4_readValue_59 ml_RX4_123 h_a0 rfl rfl (v_X4_fail (d + 1) h_a0 q13) (Nat.le_of_ble_eq_true rfl) ?_
    refine s_pick (L' := [(0, .ref a0), (1, .ref a1)]) [0, 1] rfl ?_
    exact v_X4_readValue_62 d h_a0 h_a1 h
def f_X4_readValue_29 (a0 : Nat) (a1 : Nat) (s0 : Int32) (σ : mm_S) : Option (mm_S) :=
    if (σ.1 a0 6) = (2 : Int32) then
      f_X4_readValue_50 a0 a1 σ
    else
      if s0 = 0 then
        bv (f_X4_fail a0 (0 : Int32) σ) fun σ18 =>
        f_X4_readValue_62 a0 a1 σ18
      else
        f_X4_readValue_50 a0 a1 σ
theorem v_X4_readValue_29 {g : mm_G} (d : Nat) {a0 : Nat} {a1 : Nat} {s0 : Int32} {σ : mm_S} {res : mm_S}  (h_a0 : (mm_K a0).1 = 4) (h_a1 : (mm_K a1).1 = 5) (h : f_X4_readValue_29 a0 a1 s0 σ = some res) : SV g (d + 2) yy_X4_readValue 29 [(0, .ref a0), (1, .ref a1)] [.int s0] σ .null res := by
  unfold f_X4_readValue_29 at h
  refine e_istore_n (L' := [(0, .ref a0), (1, .ref a1), (2, .int s0)]) dX4_readValue_29 rfl (by decide) rfl ?_
  refine e_aload_n 0 dX4_readValue_30 rfl rfl ?_
  refine s_geti dX4_readValue_31 fl_RX4_44 h_a0 ?_
  refine e_iconst (v := (2 : Int32)) dX4_readValue_34 (by decide) ?_
  refine e_icmp_eq 50 dX4_readValue_35 (by decide) (fun c15 => ?_) (fun c15 => ?_)
  · rw [if_pos c15] at h
    refine s_pick (L' := [(0, .ref a0), (1, .ref a1)]) [0, 1] rfl ?_
    exact v_X4_readValue_50 d h_a0 h_a1 h
  · rw [if_neg c15] at h
    refine e_iload_n 2 dX4_readValue_38 rfl rfl ?_
    refine e_if_ne 50 dX4_readValue_39 (by decide) (fun c16 => ?_) (fun c16 => ?_)
    · rw [if_neg c16] at h
      refine s_pick (L' := [(0, .ref a0), (1, .ref a1)]) [0, 1] rfl ?_
      exact v_X4_readValue_50 d h_a0 h_a1 h
    · rw [if_pos c16] at h
      refine e_aload_n 0 dX4_readValue_42 rfl rfl ?_
      refine e_iconst (v := (0 : Int32)) dX4_readValue_43 (by decide) ?_
      obtain ⟨σ18, q17, h⟩ := bv_some h
      refine s_callVv [.int (0 : Int32)] dX4_readValue_44 ml_RX4_123 h_a0 rfl rfl (v_X4_fail (d + 1) h_a0 q17) (Nat.le_of_ble_eq_true rfl) ?_
      refine e_goto 62 dX4_readValue_47 (by decide) ?_
      refine s_pick (L' := [(0, .ref a0), (1, .ref a1)]) [0, 1] rfl ?_
      exact v_X4_readValue_62 d h_a0 h_a1 h
def f_X4_readValue (a0 : Nat) (a1 : Nat) (σ : mm_S) : Option (mm_S) :=
    if (σ.1 a0 6) = (1 : Int32) then
      if (σ.1 a0 7) < 0 then
        f_X4_readValue_29 a0 a1 (0 : Int32) σ
      else
        if (13 : Int32) ≤ (σ.1 a0 7) then
          f_X4_readValue_29 a0 a1 (0 : Int32) σ
        else
          f_X4_readValue_29 a0 a1 (1 : Int32) σ
    else
      f_X4_readValue_29 a0 a1 (0 : Int32) σ
theorem v_X4_readValue {g : mm_G} (d : Nat) {a0 : Nat} {a1 : Nat} {σ : mm_S} {res : mm_S} (h_a0 : (mm_K a0).1 = 4) (h_a1 : (mm_K a1).1 = 5) (h : f_X4_readValue a0 a1 σ = some res) : SM g (d + 2) yy_X4_readValue [.ref a0, .ref a1] σ .null res := by
  refine s_of (by decide) (Nat.le_of_ble_eq_true rfl) (L := [(0, .ref a0), (1, .ref a1)]) rfl ?_
  unfold f_X4_readValue at h
  refine e_aload_n 0 dX4_readValue_0 rfl rfl ?_
  refine s_geti dX4_readValue_1 fl_RX4_44 h_a0 ?_
  refine e_iconst (v := (1 : Int32)) dX4_readValue_4 (by decide) ?_
  refine e_icmp_ne 28 dX4_readValue_5 (by decide) (fun c22 => ?_) (fun c22 => ?_)
  · rw [if_neg c22] at h
    refine e_iconst (v := (0 : Int32)) dX4_readValue_28 (by decide) ?_
    refine s_pick (L' := [(0, .ref a0), (1, .ref a1)]) [0, 1] rfl ?_
    exact v_X4_readValue_29 d h_a0 h_a1 h
  · rw [if_pos c22] at h
    refine e_aload_n 0 dX4_readValue_8 rfl rfl ?_
    refine s_geti dX4_readValue_9 fl_RX4_47 h_a0 ?_
    refine e_if_lt 28 dX4_readValue_12 (by decide) (fun c23 => ?_) (fun c23 => ?_)
    · rw [if_pos c23] at h
      refine e_iconst (v := (0 : Int32)) dX4_readValue_28 (by decide) ?_
      refine s_pick (L' := [(0, .ref a0), (1, .ref a1)]) [0, 1] rfl ?_
      exact v_X4_readValue_29 d h_a0 h_a1 h
    · rw [if_neg c23] at h
      refine e_aload_n 0 dX4_readValue_15 rfl rfl ?_
      refine s_geti dX4_readValue_16 fl_RX4_47 h_a0 ?_
      refine e_bipush (v := (13 : Int32)) dX4_readValue_19 (by decide) ?_
      refine e_icmp_ge 28 dX4_readValue_21 (by decide) (fun c24 => ?_) (fun c24 => ?_)
      · rw [if_pos c24] at h
        refine e_iconst (v := (0 : Int32)) dX4_readValue_28 (by decide) ?_
        refine s_pick (L' := [(0, .ref a0), (1, .ref a1)]) [0, 1] rfl ?_
        exact v_X4_readValue_29 d h_a0 h_a1 h
      · rw [if_neg c24] at h
        refine e_iconst (v := (1 : Int32)) dX4_readValue_24 (by decide) ?_
        refine e_goto 29 dX4_readValue_25 (by decide) ?_
        refine s_pick (L' := [(0, .ref a0), (1, .ref a1)]) [0, 1] rfl ?_
        exact v_X4_readValue_29 d h_a0 h_a1 h
