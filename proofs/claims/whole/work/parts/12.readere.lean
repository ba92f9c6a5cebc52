abbrev yy_X4_readHouse : mm_Y := (yX4_readHouse, cX4_readHouse, 3, none)
theorem dX4_readHouse_0 : decode cX4_readHouse 0 = .ok (.aload_n 1, 1) := by decide +kernel
theorem dX4_readHouse_1 : decode cX4_readHouse 1 = .ok (.invokevirtual 104, 3) := by decide +kernel
theorem dX4_readHouse_4 : decode cX4_readHouse 4 = .ok (.aload_n 0, 1) := by decide +kernel
theorem dX4_readHouse_5 : decode cX4_readHouse 5 = .ok (.invokevirtual 109, 3) := by decide +kernel
theorem dX4_readHouse_8 : decode cX4_readHouse 8 = .ok (.iconst 0, 1) := by decide +kernel
theorem dX4_readHouse_9 : decode cX4_readHouse 9 = .ok (.istore_n 2, 1) := by decide +kernel
theorem dX4_readHouse_10 : decode cX4_readHouse 10 = .ok (.iload_n 2, 1) := by decide +kernel
theorem dX4_readHouse_11 : decode cX4_readHouse 11 = .ok (.bipush 40, 2) := by decide +kernel
theorem dX4_readHouse_13 : decode cX4_readHouse 13 = .ok (.if_icmp .gt 63, 3) := by decide +kernel
theorem dX4_readHouse_16 : decode cX4_readHouse 16 = .ok (.aload_n 0, 1) := by decide +kernel
theorem dX4_readHouse_17 : decode cX4_readHouse 17 = .ok (.getfield 28, 3) := by decide +kernel
theorem dX4_readHouse_20 : decode cX4_readHouse 20 = .ok (.ifCond .ne 56, 3) := by decide +kernel
theorem dX4_readHouse_23 : decode cX4_readHouse 23 = .ok (.aload_n 0, 1) := by decide +kernel
theorem dX4_readHouse_24 : decode cX4_readHouse 24 = .ok (.aload_n 1, 1) := by decide +kernel
theorem dX4_readHouse_25 : decode cX4_readHouse 25 = .ok (.iload_n 2, 1) := by decide +kernel
theorem dX4_readHouse_26 : decode cX4_readHouse 26 = .ok (.invokevirtual 112, 3) := by decide +kernel
theorem dX4_readHouse_29 : decode cX4_readHouse 29 = .ok (.aload_n 0, 1) := by decide +kernel
theorem dX4_readHouse_30 : decode cX4_readHouse 30 = .ok (.getfield 28, 3) := by decide +kernel
theorem dX4_readHouse_33 : decode cX4_readHouse 33 = .ok (.ifCond .ne 16, 3) := by decide +kernel
theorem dX4_readHouse_36 : decode cX4_readHouse 36 = .ok (.aload_n 0, 1) := by decide +kernel
theorem dX4_readHouse_37 : decode cX4_readHouse 37 = .ok (.getfield 44, 3) := by decide +kernel
theorem dX4_readHouse_40 : decode cX4_readHouse 40 = .ok (.ifCond .ne 9, 3) := by decide +kernel
theorem dX4_readHouse_43 : decode cX4_readHouse 43 = .ok (.aload_n 1, 1) := by decide +kernel
theorem dX4_readHouse_44 : decode cX4_readHouse 44 = .ok (.iconst 1, 1) := by decide +kernel
theorem dX4_readHouse_45 : decode cX4_readHouse 45 = .ok (.putfield 116, 3) := by decide +kernel
theorem dX4_readHouse_48 : decode cX4_readHouse 48 = .ok (.return_, 1) := by decide +kernel
theorem dX4_readHouse_49 : decode cX4_readHouse 49 = .ok (.aload_n 0, 1) := by decide +kernel
theorem dX4_readHouse_50 : decode cX4_readHouse 50 = .ok (.bipush 37, 2) := by decide +kernel
theorem dX4_readHouse_52 : decode cX4_readHouse 52 = .ok (.invokevirtual 120, 3) := by decide +kernel
theorem dX4_readHouse_55 : decode cX4_readHouse 55 = .ok (.ifCond .eq 10, 3) := by decide +kernel
theorem dX4_readHouse_58 : decode cX4_readHouse 58 = .ok (.aload_n 0, 1) := by decide +kernel
theorem dX4_readHouse_59 : decode cX4_readHouse 59 = .ok (.invokevirtual 38, 3) := by decide +kernel
theorem dX4_readHouse_62 : decode cX4_readHouse 62 = .ok (.goto 8, 3) := by decide +kernel
theorem dX4_readHouse_65 : decode cX4_readHouse 65 = .ok (.aload_n 0, 1) := by decide +kernel
theorem dX4_readHouse_66 : decode cX4_readHouse 66 = .ok (.iconst 0, 1) := by decide +kernel
theorem dX4_readHouse_67 : decode cX4_readHouse 67 = .ok (.invokevirtual 123, 3) := by decide +kernel
theorem dX4_readHouse_70 : decode cX4_readHouse 70 = .ok (.iinc 2 1, 3) := by decide +kernel
theorem dX4_readHouse_73 : decode cX4_readHouse 73 = .ok (.goto (-63), 3) := by decide +kernel
theorem dX4_readHouse_76 : decode cX4_readHouse 76 = .ok (.return_, 1) := by decide +kernel
def f_X4_readHouse_49 (k10 : (Int32) → mm_S → Option (mm_S)) (a0 : Nat) (a1 : Nat) (i2 : Int32) (σ : mm_S) : Option (mm_S) :=
    bd (f_X4_isSign a0 (37 : Int32) σ) fun r3 σ2 =>
    if r3 = 0 then
      bv (f_X4_fail a0 (0 : Int32) σ2) fun σ6 =>
      lt (i2 + Int32.ofInt (1)) fun x7 =>
      k10 x7 σ6
    else
      bv (f_X4_step a0 σ2) fun σ10 =>
      lt (i2 + Int32.ofInt (1)) fun x11 =>
      k10 x11 σ10
theorem v_X4_readHouse_49 {g : mm_G} (d : Nat) {k10 : (Int32) → mm_S → Option (mm_S)} {a0 : Nat} {a1 : Nat} {i2 : Int32} {σ : mm_S} {res : mm_S} (H10 : ∀ v σ, k10 v σ = some res → SV g (d + 7) yy_X4_readHouse 10 [(0, .ref a0), (1, .ref a1), (2, .int v)] [] σ .null res) (h_a0 : (mm_K a0).1 = 4) (h_a1 : (mm_K a1).1 = 1) (h : f_X4_readHouse_49 k10 a0 a1 i2 σ = some res) : SV g (d + 7) yy_X4_readHouse 49 [(0, .ref a0), (1, .ref a1), (2, .int i2)] [] σ .null res := by
  unfold f_X4_readHouse_49 at h
  refine e_aload_n 0 dX4_readHouse_49 rfl rfl ?_
  refine e_bipush (v := (37 : Int32)) dX4_readHouse_50 (by decide) ?_
  obtain ⟨r3, σ2, q1, h⟩ := bd_some h
  refine s_callVi [.int (37 : Int32)] dX4_readHouse_52 ml_RX4_120 h_a0 ⟨_, rfl, by decide⟩ rfl (v_X4_isSign (d + 6) h_a0 q1) (Nat.le_of_ble_eq_true rfl) ?_
  refine e_if_eq 65 dX4_readHouse_55 (by decide) (fun c4 => ?_) (fun c4 => ?_)
  · rw [if_pos c4] at h
    refine e_aload_n 0 dX4_readHouse_65 rfl rfl ?_
    refine e_iconst (v := (0 : Int32)) dX4_readHouse_66 (by decide) ?_
    obtain ⟨σ6, q5, h⟩ := bv_some h
    refine s_callVv [.int (0 : Int32)] dX4_readHouse_67 ml_RX4_123 h_a0 rfl rfl (v_X4_fail (d + 6) h_a0 q5) (Nat.le_of_ble_eq_true rfl) ?_
    obtain ⟨x7, q8, h⟩ := lt_some h
    refine e_iinc (v := x7) (L' := [(0, .ref a0), (1, .ref a1), (2, .int x7)]) 2 dX4_readHouse_70 rfl q8.symm (by decide) rfl ?_
    refine e_goto 10 dX4_readHouse_73 (by decide) ?_
    refine s_pick (L' := [(0, .ref a0), (1, .ref a1), (2, .int x7)]) [0, 1, 2] rfl ?_
    exact H10 x7 σ6 h
  · rw [if_neg c4] at h
    refine e_aload_n 0 dX4_readHouse_58 rfl rfl ?_
    obtain ⟨σ10, q9, h⟩ := bv_some h
    refine s_callVv [] dX4_readHouse_59 ml_RX4_38 h_a0 rfl rfl (v_X4_step (d + 6) h_a0 q9) (Nat.le_of_ble_eq_true rfl) ?_
    refine e_goto 70 dX4_readHouse_62 (by decide) ?_
    obtain ⟨x11, q12, h⟩ := lt_some h
    refine e_iinc (v := x11) (L' := [(0, .ref a0), (1, .ref a1), (2, .int x11)]) 2 dX4_readHouse_70 rfl q12.symm (by decide) rfl ?_
    refine e_goto 10 dX4_readHouse_73 (by decide) ?_
    refine s_pick (L' := [(0, .ref a0), (1, .ref a1), (2, .int x11)]) [0, 1, 2] rfl ?_
    exact H10 x11 σ10 h
def f_X4_readHouse_10 (a0 : Nat) (a1 : Nat) (i2 : Int32) (σ : mm_S) : Option (mm_S) :=
  lp lpN (fun (k10 : (Int32) → mm_S → Option (mm_S)) (v : Int32) (σ : mm_S) =>
    if (40 : Int32) < v then
      some σ
    else
      if (σ.1 a0 9) = 0 then
        bv (f_X4_readHouseClause a0 a1 v σ) fun σ16 =>
        if (σ16.1 a0 9) = 0 then
          if (σ16.1 a0 6) = 0 then
            lt (su_i σ16 a1 0 (1 : Int32)) fun σ19 =>
            some σ19
          else
            f_X4_readHouse_49 k10 a0 a1 v σ16
        else
          f_X4_readHouse_49 k10 a0 a1 v σ16
      else
        some σ) i2 σ
theorem v_X4_readHouse_10 {g : mm_G} (d : Nat) {a0 : Nat} {a1 : Nat} {i2 : Int32} {σ : mm_S} {res : mm_S}  (h_a0 : (mm_K a0).1 = 4) (h_a1 : (mm_K a1).1 = 1) (h : f_X4_readHouse_10 a0 a1 i2 σ = some res) : SV g (d + 7) yy_X4_readHouse 10 [(0, .ref a0), (1, .ref a1), (2, .int i2)] [] σ .null res := by
  unfold f_X4_readHouse_10 at h
  refine lp_ind (P := fun v σ => SV g (d + 7) yy_X4_readHouse 10 [(0, .ref a0), (1, .ref a1), (2, .int v)] [] σ .null res) (fun k10 H10 v σ h => ?_) _ i2 σ h
  refine e_iload_n 2 dX4_readHouse_10 rfl rfl ?_
  refine e_bipush (v := (40 : Int32)) dX4_readHouse_11 (by decide) ?_
  refine e_icmp_gt 76 dX4_readHouse_13 (by decide) (fun c13 => ?_) (fun c13 => ?_)
  · rw [if_pos c13] at h
    obtain rfl := Option.some.inj h
    exact s_ret rfl rfl dX4_readHouse_76
  · rw [if_neg c13] at h
    refine e_aload_n 0 dX4_readHouse_16 rfl rfl ?_
    refine s_geti dX4_readHouse_17 fl_RX4_28 h_a0 ?_
    refine e_if_ne 76 dX4_readHouse_20 (by decide) (fun c14 => ?_) (fun c14 => ?_)
    · rw [if_neg c14] at h
      obtain rfl := Option.some.inj h
      exact s_ret rfl rfl dX4_readHouse_76
    · rw [if_pos c14] at h
      refine e_aload_n 0 dX4_readHouse_23 rfl rfl ?_
      refine e_aload_n 1 dX4_readHouse_24 rfl rfl ?_
      refine e_iload_n 2 dX4_readHouse_25 rfl rfl ?_
      obtain ⟨σ16, q15, h⟩ := bv_some h
      refine s_callVv [.ref a1, .int v] dX4_readHouse_26 ml_RX4_112 h_a0 rfl rfl (v_X4_readHouseClause (d + 4) h_a0 h_a1 q15) (Nat.le_of_ble_eq_true rfl) ?_
      refine e_aload_n 0 dX4_readHouse_29 rfl rfl ?_
      refine s_geti dX4_readHouse_30 fl_RX4_28 h_a0 ?_
      refine e_if_ne 49 dX4_readHouse_33 (by decide) (fun c17 => ?_) (fun c17 => ?_)
      · rw [if_neg c17] at h
        refine s_pick (L' := [(0, .ref a0), (1, .ref a1), (2, .int v)]) [0, 1, 2] rfl ?_
        exact v_X4_readHouse_49 d H10 h_a0 h_a1 h
      · rw [if_pos c17] at h
        refine e_aload_n 0 dX4_readHouse_36 rfl rfl ?_
        refine s_geti dX4_readHouse_37 fl_RX4_44 h_a0 ?_
        refine e_if_ne 49 dX4_readHouse_40 (by decide) (fun c18 => ?_) (fun c18 => ?_)
        · rw [if_neg c18] at h
          refine s_pick (L' := [(0, .ref a0), (1, .ref a1), (2, .int v)]) [0, 1, 2] rfl ?_
          exact v_X4_readHouse_49 d H10 h_a0 h_a1 h
        · rw [if_pos c18] at h
          refine e_aload_n 1 dX4_readHouse_43 rfl rfl ?_
          refine e_iconst (v := (1 : Int32)) dX4_readHouse_44 (by decide) ?_
          refine s_puti dX4_readHouse_45 fl_RX4_116 h_a1 rfl (nb1 (Or.inr rfl)) (nb2 (Or.inr rfl)) ?_
          obtain ⟨σ19, q20, h⟩ := lt_some h
          refine s_nms q20 ?_
          obtain rfl := Option.some.inj h
          exact s_ret rfl rfl dX4_readHouse_48
def f_X4_readHouse (a0 : Nat) (a1 : Nat) (σ : mm_S) : Option (mm_S) :=
    bv (f_X1_empty a1 σ) fun σ26 =>
    bv (f_X4_begin a0 σ26) fun σ28 =>
    f_X4_readHouse_10 a0 a1 (0 : Int32) σ28
theorem v_X4_readHouse {g : mm_G} (d : Nat) {a0 : Nat} {a1 : Nat} {σ : mm_S} {res : mm_S} (h_a0 : (mm_K a0).1 = 4) (h_a1 : (mm_K a1).1 = 1) (h : f_X4_readHouse a0 a1 σ = some res) : SM g (d + 7) yy_X4_readHouse [.ref a0, .ref a1] σ .null res := by
  refine s_of (by decide) (Nat.le_of_ble_eq_true rfl) (L := [(0, .ref a0), (1, .ref a1)]) rfl ?_
  unfold f_X4_readHouse at h
  refine e_aload_n 1 dX4_readHouse_0 rfl rfl ?_
  obtain ⟨σ26, q25, h⟩ := bv_some h
  refine s_callVv [] dX4_readHouse_1 ml_RX4_104 h_a1 rfl rfl (v_X1_empty (d + 5) h_a1 q25) (Nat.le_of_ble_eq_true rfl) ?_
  refine e_aload_n 0 dX4_readHouse_4 rfl rfl ?_
  obtain ⟨σ28, q27, h⟩ := bv_some h
  refine s_callVv [] dX4_readHouse_5 ml_RX4_109 h_a0 rfl rfl (v_X4_begin (d + 0) h_a0 q27) (Nat.le_of_ble_eq_true rfl) ?_
  refine e_iconst (v := (0 : Int32)) dX4_readHouse_8 (by decide) ?_
  refine e_istore_n (L' := [(0, .ref a0), (1, .ref a1), (2, .int (0 : Int32))]) dX4_readHouse_9 rfl (by decide) rfl ?_
  refine s_pick (L' := [(0, .ref a0), (1, .ref a1), (2, .int (0 : Int32))]) [0, 1, 2] rfl ?_
  exact v_X4_readHouse_10 d h_a0 h_a1 h
abbrev yy_X4_readRule : mm_Y := (yX4_readRule, cX4_readRule, 3, none)
theorem dX4_readRule_0 : decode cX4_readRule 0 = .ok (.aload_n 1, 1) := by decide +kernel
theorem dX4_readRule_1 : decode cX4_readRule 1 = .ok (.iconst 0, 1) := by decide +kernel
theorem dX4_readRule_2 : decode cX4_readRule 2 = .ok (.putfield 153, 3) := by decide +kernel
theorem dX4_readRule_5 : decode cX4_readRule 5 = .ok (.aload_n 0, 1) := by decide +kernel
theorem dX4_readRule_6 : decode cX4_readRule 6 = .ok (.invokevirtual 109, 3) := by decide +kernel
theorem dX4_readRule_9 : decode cX4_readRule 9 = .ok (.iconst 0, 1) := by decide +kernel
theorem dX4_readRule_10 : decode cX4_readRule 10 = .ok (.istore_n 2, 1) := by decide +kernel
theorem dX4_readRule_11 : decode cX4_readRule 11 = .ok (.iload_n 2, 1) := by decide +kernel
theorem dX4_readRule_12 : decode cX4_readRule 12 = .ok (.bipush 12, 2) := by decide +kernel
theorem dX4_readRule_14 : decode cX4_readRule 14 = .ok (.if_icmp .gt 113, 3) := by decide +kernel
theorem dX4_readRule_17 : decode cX4_readRule 17 = .ok (.aload_n 0, 1) := by decide +kernel
theorem dX4_readRule_18 : decode cX4_readRule 18 = .ok (.getfield 28, 3) := by decide +kernel
theorem dX4_readRule_21 : decode cX4_readRule 21 = .ok (.ifCond .ne 106, 3) := by decide +kernel
theorem dX4_readRule_24 : decode cX4_readRule 24 = .ok (.aload_n 0, 1) := by decide +kernel
theorem dX4_readRule_25 : decode cX4_readRule 25 = .ok (.bipush 15, 2) := by decide +kernel
theorem dX4_readRule_27 : decode cX4_readRule 27 = .ok (.invokevirtual 127, 3) := by decide +kernel
theorem dX4_readRule_30 : decode cX4_readRule 30 = .ok (.ifCond .ne 11, 3) := by decide +kernel
theorem dX4_readRule_33 : decode cX4_readRule 33 = .ok (.aload_n 0, 1) := by decide +kernel
theorem dX4_readRule_34 : decode cX4_readRule 34 = .ok (.iconst 0, 1) := by decide +kernel
theorem dX4_readRule_35 : decode cX4_readRule 35 = .ok (.invokevirtual 123, 3) := by decide +kernel
theorem dX4_readRule_38 : decode cX4_readRule 38 = .ok (.goto 14, 3) := by decide +kernel
theorem dX4_readRule_41 : decode cX4_readRule 41 = .ok (.iload_n 2, 1) := by decide +kernel
theorem dX4_readRule_42 : decode cX4_readRule 42 = .ok (.bipush 12, 2) := by decide +kernel
theorem dX4_readRule_44 : decode cX4_readRule 44 = .ok (.if_icmp .lt 8, 3) := by decide +kernel
theorem dX4_readRule_47 : decode cX4_readRule 47 = .ok (.aload_n 0, 1) := by decide +kernel
theorem dX4_readRule_48 : decode cX4_readRule 48 = .ok (.iconst 4, 1) := by decide +kernel
theorem dX4_readRule_49 : decode cX4_readRule 49 = .ok (.invokevirtual 123, 3) := by decide +kernel
theorem dX4_readRule_52 : decode cX4_readRule 52 = .ok (.aload_n 0, 1) := by decide +kernel
theorem dX4_readRule_53 : decode cX4_readRule 53 = .ok (.invokevirtual 38, 3) := by decide +kernel
theorem dX4_readRule_56 : decode cX4_readRule 56 = .ok (.aload_n 0, 1) := by decide +kernel
theorem dX4_readRule_57 : decode cX4_readRule 57 = .ok (.aload_n 1, 1) := by decide +kernel
theorem dX4_readRule_58 : decode cX4_readRule 58 = .ok (.invokevirtual 156, 3) := by decide +kernel
theorem dX4_readRule_61 : decode cX4_readRule 61 = .ok (.aload_n 0, 1) := by decide +kernel
theorem dX4_readRule_62 : decode cX4_readRule 62 = .ok (.bipush 16, 2) := by decide +kernel
theorem dX4_readRule_64 : decode cX4_readRule 64 = .ok (.invokevirtual 127, 3) := by decide +kernel
theorem dX4_readRule_67 : decode cX4_readRule 67 = .ok (.ifCond .eq 22, 3) := by decide +kernel
theorem dX4_readRule_70 : decode cX4_readRule 70 = .ok (.aload_n 0, 1) := by decide +kernel
theorem dX4_readRule_71 : decode cX4_readRule 71 = .ok (.invokevirtual 38, 3) := by decide +kernel
theorem dX4_readRule_74 : decode cX4_readRule 74 = .ok (.aload_n 0, 1) := by decide +kernel
theorem dX4_readRule_75 : decode cX4_readRule 75 = .ok (.aload_n 1, 1) := by decide +kernel
theorem dX4_readRule_76 : decode cX4_readRule 76 = .ok (.iconst 0, 1) := by decide +kernel
theorem dX4_readRule_77 : decode cX4_readRule 77 = .ok (.invokevirtual 160, 3) := by decide +kernel
theorem dX4_readRule_80 : decode cX4_readRule 80 = .ok (.aload_n 1, 1) := by decide +kernel
theorem dX4_readRule_81 : decode cX4_readRule 81 = .ok (.bipush 34, 2) := by decide +kernel
theorem dX4_readRule_83 : decode cX4_readRule 83 = .ok (.invokevirtual 164, 3) := by decide +kernel
theorem dX4_readRule_86 : decode cX4_readRule 86 = .ok (.goto 9, 3) := by decide +kernel
theorem dX4_readRule_89 : decode cX4_readRule 89 = .ok (.aload_n 1, 1) := by decide +kernel
theorem dX4_readRule_90 : decode cX4_readRule 90 = .ok (.bipush 33, 2) := by decide +kernel
theorem dX4_readRule_92 : decode cX4_readRule 92 = .ok (.invokevirtual 164, 3) := by decide +kernel
theorem dX4_readRule_95 : decode cX4_readRule 95 = .ok (.aload_n 0, 1) := by decide +kernel
theorem dX4_readRule_96 : decode cX4_readRule 96 = .ok (.getfield 44, 3) := by decide +kernel
theorem dX4_readRule_99 : decode cX4_readRule 99 = .ok (.ifCond .ne 4, 3) := by decide +kernel
theorem dX4_readRule_102 : decode cX4_readRule 102 = .ok (.return_, 1) := by decide +kernel
theorem dX4_readRule_103 : decode cX4_readRule 103 = .ok (.aload_n 0, 1) := by decide +kernel
theorem dX4_readRule_104 : decode cX4_readRule 104 = .ok (.bipush 37, 2) := by decide +kernel
theorem dX4_readRule_106 : decode cX4_readRule 106 = .ok (.invokevirtual 120, 3) := by decide +kernel
theorem dX4_readRule_109 : decode cX4_readRule 109 = .ok (.ifCond .ne 8, 3) := by decide +kernel
theorem dX4_readRule_112 : decode cX4_readRule 112 = .ok (.aload_n 0, 1) := by decide +kernel
theorem dX4_readRule_113 : decode cX4_readRule 113 = .ok (.iconst 0, 1) := by decide +kernel
theorem dX4_readRule_114 : decode cX4_readRule 114 = .ok (.invokevirtual 123, 3) := by decide +kernel
theorem dX4_readRule_117 : decode cX4_readRule 117 = .ok (.aload_n 0, 1) := by decide +kernel
theorem dX4_readRule_118 : decode cX4_readRule 118 = .ok (.invokevirtual 38, 3) := by decide +kernel
theorem dX4_readRule_121 : decode cX4_readRule 121 = .ok (.iinc 2 1, 3) := by decide +kernel
theorem dX4_readRule_124 : decode cX4_readRule 124 = .ok (.goto (-113), 3) := by decide +kernel
theorem dX4_readRule_127 : decode cX4_readRule 127 = .ok (.return_, 1) := by decide +kernel
def f_X4_readRule_95 (k11 : (Int32) → mm_S → Option (mm_S)) (a0 : Nat) (a1 : Nat) (i2 : Int32) (σ : mm_S) : Option (mm_S) :=
    if (σ.1 a0 6) = 0 then
      some σ
    else
      bd (f_X4_isSign a0 (37 : Int32) σ) fun r4 σ3 =>
      if r4 = 0 then
        bv (f_X4_fail a0 (0 : Int32) σ3) fun σ11 =>
        bv (f_X4_step a0 σ11) fun σ13 =>
        lt (i2 + Int32.ofInt (1)) fun x14 =>
        k11 x14 σ13
      else
        bv (f_X4_step a0 σ3) fun σ7 =>
        lt (i2 + Int32.ofInt (1)) fun x8 =>
        k11 x8 σ7
theorem v_X4_readRule_95 {g : mm_G} (d : Nat) {k11 : (Int32) → mm_S → Option (mm_S)} {a0 : Nat} {a1 : Nat} {i2 : Int32} {σ : mm_S} {res : mm_S} (H11 : ∀ v σ, k11 v σ = some res → SV g (d + 44) yy_X4_readRule 11 [(0, .ref a0), (1, .ref a1), (2, .int v)] [] σ .null res) (h_a0 : (mm_K a0).1 = 4) (h_a1 : (mm_K a1).1 = 5) (h : f_X4_readRule_95 k11 a0 a1 i2 σ = some res) : SV g (d + 44) yy_X4_readRule 95 [(0, .ref a0), (1, .ref a1), (2, .int i2)] [] σ .null res := by
  unfold f_X4_readRule_95 at h
  refine e_aload_n 0 dX4_readRule_95 rfl rfl ?_
  refine s_geti dX4_readRule_96 fl_RX4_44 h_a0 ?_
  refine e_if_ne 103 dX4_readRule_99 (by decide) (fun c1 => ?_) (fun c1 => ?_)
  · rw [if_neg c1] at h
    refine e_aload_n 0 dX4_readRule_103 rfl rfl ?_
    refine e_bipush (v := (37 : Int32)) dX4_readRule_104 (by decide) ?_
    obtain ⟨r4, σ3, q2, h⟩ := bd_some h
    refine s_callVi [.int (37 : Int32)] dX4_readRule_106 ml_RX4_120 h_a0 ⟨_, rfl, by decide⟩ rfl (v_X4_isSign (d + 43) h_a0 q2) (Nat.le_of_ble_eq_true rfl) ?_
    refine e_if_ne 117 dX4_readRule_109 (by decide) (fun c5 => ?_) (fun c5 => ?_)
    · rw [if_neg c5] at h
      refine e_aload_n 0 dX4_readRule_117 rfl rfl ?_
      obtain ⟨σ7, q6, h⟩ := bv_some h
      refine s_callVv [] dX4_readRule_118 ml_RX4_38 h_a0 rfl rfl (v_X4_step (d + 43) h_a0 q6) (Nat.le_of_ble_eq_true rfl) ?_
      obtain ⟨x8, q9, h⟩ := lt_some h
      refine e_iinc (v := x8) (L' := [(0, .ref a0), (1, .ref a1), (2, .int x8)]) 2 dX4_readRule_121 rfl q9.symm (by decide) rfl ?_
      refine e_goto 11 dX4_readRule_124 (by decide) ?_
      refine s_pick (L' := [(0, .ref a0), (1, .ref a1), (2, .int x8)]) [0, 1, 2] rfl ?_
      exact H11 x8 σ7 h
    · rw [if_pos c5] at h
      refine e_aload_n 0 dX4_readRule_112 rfl rfl ?_
      refine e_iconst (v := (0 : Int32)) dX4_readRule_113 (by decide) ?_
      obtain ⟨σ11, q10, h⟩ := bv_some h
      refine s_callVv [.int (0 : Int32)] dX4_readRule_114 ml_RX4_123 h_a0 rfl rfl (v_X4_fail (d + 43) h_a0 q10) (Nat.le_of_ble_eq_true rfl) ?_
      refine e_aload_n 0 dX4_readRule_117 rfl rfl ?_
      obtain ⟨σ13, q12, h⟩ := bv_some h
      refine s_callVv [] dX4_readRule_118 ml_RX4_38 h_a0 rfl rfl (v_X4_step (d + 43) h_a0 q12) (Nat.le_of_ble_eq_true rfl) ?_
      obtain ⟨x14, q15, h⟩ := lt_some h
      refine e_iinc (v := x14) (L' := [(0, .ref a0), (1, .ref a1), (2, .int x14)]) 2 dX4_readRule_121 rfl q15.symm (by decide) rfl ?_
      refine e_goto 11 dX4_readRule_124 (by decide) ?_
      refine s_pick (L' := [(0, .ref a0), (1, .ref a1), (2, .int x14)]) [0, 1, 2] rfl ?_
      exact H11 x14 σ13 h
  · rw [if_pos c1] at h
    obtain rfl := Option.some.inj h
    exact s_ret rfl rfl dX4_readRule_102
def f_X4_readRule_52 (k11 : (Int32) → mm_S → Option (mm_S)) (a0 : Nat) (a1 : Nat) (i2 : Int32) (σ : mm_S) : Option (mm_S) :=
    bv (f_X4_step a0 σ) fun σ17 =>
    bv (f_X4_readSum a0 a1 σ17) fun σ19 =>
    bd (f_X4_isWord a0 (16 : Int32) σ19) fun r22 σ21 =>
    if r22 = 0 then
      bv (f_X5_add a1 (33 : Int32) σ21) fun σ25 =>
      f_X4_readRule_95 k11 a0 a1 i2 σ25
    else
      bv (f_X4_step a0 σ21) fun σ27 =>
      bv (f_X4_readTest a0 a1 (0 : Int32) σ27) fun σ29 =>
      bv (f_X5_add a1 (34 : Int32) σ29) fun σ31 =>
      f_X4_readRule_95 k11 a0 a1 i2 σ31
theorem v_X4_readRule_52 {g : mm_G} (d : Nat) {k11 : (Int32) → mm_S → Option (mm_S)} {a0 : Nat} {a1 : Nat} {i2 : Int32} {σ : mm_S} {res : mm_S} (H11 : ∀ v σ, k11 v σ = some res → SV g (d + 44) yy_X4_readRule 11 [(0, .ref a0), (1, .ref a1), (2, .int v)] [] σ .null res) (h_a0 : (mm_K a0).1 = 4) (h_a1 : (mm_K a1).1 = 5) (h : f_X4_readRule_52 k11 a0 a1 i2 σ = some res) : SV g (d + 44) yy_X4_readRule 52 [(0, .ref a0), (1, .ref a1), (2, .int i2)] [] σ .null res := by
  unfold f_X4_readRule_52 at h
  refine e_aload_n 0 dX4_readRule_52 rfl rfl ?_
  obtain ⟨σ17, q16, h⟩ := bv_some h
  refine s_callVv [] dX4_readRule_53 ml_RX4_38 h_a0 rfl rfl (v_X4_step (d + 43) h_a0 q16) (Nat.le_of_ble_eq_true rfl) ?_
  refine e_aload_n 0 dX4_readRule_56 rfl rfl ?_
  refine e_aload_n 1 dX4_readRule_57 rfl rfl ?_
  obtain ⟨σ19, q18, h⟩ := bv_some h
  refine s_callVv [.ref a1] dX4_readRule_58 ml_RX4_156 h_a0 rfl rfl (v_X4_readSum (d + 40) h_a0 h_a1 q18) (Nat.le_of_ble_eq_true rfl) ?_
  refine e_aload_n 0 dX4_readRule_61 rfl rfl ?_
  refine e_bipush (v := (16 : Int32)) dX4_readRule_62 (by decide) ?_
  obtain ⟨r22, σ21, q20, h⟩ := bd_some h
  refine s_callVi [.int (16 : Int32)] dX4_readRule_64 ml_RX4_127 h_a0 ⟨_, rfl, by decide⟩ rfl (v_X4_isWord (d + 43) h_a0 q20) (Nat.le_of_ble_eq_true rfl) ?_
  refine e_if_eq 89 dX4_readRule_67 (by decide) (fun c23 => ?_) (fun c23 => ?_)
  · rw [if_pos c23] at h
    refine e_aload_n 1 dX4_readRule_89 rfl rfl ?_
    refine e_bipush (v := (33 : Int32)) dX4_readRule_90 (by decide) ?_
    obtain ⟨σ25, q24, h⟩ := bv_some h
    refine s_callVv [.int (33 : Int32)] dX4_readRule_92 ml_RX4_164 h_a1 rfl rfl (v_X5_add (d + 43) h_a1 q24) (Nat.le_of_ble_eq_true rfl) ?_
    refine s_pick (L' := [(0, .ref a0), (1, .ref a1), (2, .int i2)]) [0, 1, 2] rfl ?_
    exact v_X4_readRule_95 d H11 h_a0 h_a1 h
  · rw [if_neg c23] at h
    refine e_aload_n 0 dX4_readRule_70 rfl rfl ?_
    obtain ⟨σ27, q26, h⟩ := bv_some h
    refine s_callVv [] dX4_readRule_71 ml_RX4_38 h_a0 rfl rfl (v_X4_step (d + 43) h_a0 q26) (Nat.le_of_ble_eq_true rfl) ?_
    refine e_aload_n 0 dX4_readRule_74 rfl rfl ?_
    refine e_aload_n 1 dX4_readRule_75 rfl rfl ?_
    refine e_iconst (v := (0 : Int32)) dX4_readRule_76 (by decide) ?_
    obtain ⟨σ29, q28, h⟩ := bv_some h
    refine s_callVv [.ref a1, .int (0 : Int32)] dX4_readRule_77 ml_RX4_160 h_a0 rfl rfl (v_X4_readTest (d + 0) h_a0 h_a1 q28) (Nat.le_of_ble_eq_true rfl) ?_
    refine e_aload_n 1 dX4_readRule_80 rfl rfl ?_
    refine e_bipush (v := (34 : Int32)) dX4_readRule_81 (by decide) ?_
    obtain ⟨σ31, q30, h⟩ := bv_some h
    refine s_callVv [.int (34 : Int32)] dX4_readRule_83 ml_RX4_164 h_a1 rfl rfl (v_X5_add (d + 43) h_a1 q30) (Nat.le_of_ble_eq_true rfl) ?_
    refine e_goto 95 dX4_readRule_86 (by decide) ?_
    refine s_pick (L' := [(0, .ref a0), (1, .ref a1), (2, .int i2)]) [0, 1, 2] rfl ?_
    exact v_X4_readRule_95 d H11 h_a0 h_a1 h
def f_X4_readRule_11 (a0 : Nat) (a1 : Nat) (i2 : Int32) (σ : mm_S) : Option (mm_S) :=
  lp lpN (fun (k11 : (Int32) → mm_S → Option (mm_S)) (v : Int32) (σ : mm_S) =>
    if (12 : Int32) < v then
      some σ
    else
      if (σ.1 a0 9) = 0 then
        bd (f_X4_isWord a0 (15 : Int32) σ) fun r36 σ35 =>
        if r36 = 0 then
          bv (f_X4_fail a0 (0 : Int32) σ35) fun σ42 =>
          f_X4_readRule_52 k11 a0 a1 v σ42
        else
          if v < (12 : Int32) then
            f_X4_readRule_52 k11 a0 a1 v σ35
          else
            bv (f_X4_fail a0 (4 : Int32) σ35) fun σ40 =>
            f_X4_readRule_52 k11 a0 a1 v σ40
      else
        some σ) i2 σ
theorem v_X4_readRule_11 {g : mm_G} (d : Nat) {a0 : Nat} {a1 : Nat} {i2 : Int32} {σ : mm_S} {res : mm_S}  (h_a0 : (mm_K a0).1 = 4) (h_a1 : (mm_K a1).1 = 5) (h : f_X4_readRule_11 a0 a1 i2 σ = some res) : SV g (d + 44) yy_X4_readRule 11 [(0, .ref a0), (1, .ref a1), (2, .int i2)] [] σ .null res := by
  unfold f_X4_readRule_11 at h
  refine lp_ind (P := fun v σ => SV g (d + 44) yy_X4_readRule 11 [(0, .ref a0), (1, .ref a1), (2, .int v)] [] σ .null res) (fun k11 H11 v σ h => ?_) _ i2 σ h
  refine e_iload_n 2 dX4_readRule_11 rfl rfl ?_
  refine e_bipush (v := (12 : Int32)) dX4_readRule_12 (by decide) ?_
  refine e_icmp_gt 127 dX4_readRule_14 (by decide) (fun c32 => ?_) (fun c32 => ?_)
  · rw [if_pos c32] at h
    obtain rfl := Option.some.inj h
    exact s_ret rfl rfl dX4_readRule_127
  · rw [if_neg c32] at h
    refine e_aload_n 0 dX4_readRule_17 rfl rfl ?_
    refine s_geti dX4_readRule_18 fl_RX4_28 h_a0 ?_
    refine e_if_ne 127 dX4_readRule_21 (by decide) (fun c33 => ?_) (fun c33 => ?_)
    · rw [if_neg c33] at h
      obtain rfl := Option.some.inj h
      exact s_ret rfl rfl dX4_readRule_127
    · rw [if_pos c33] at h
      refine e_aload_n 0 dX4_readRule_24 rfl rfl ?_
      refine e_bipush (v := (15 : Int32)) dX4_readRule_25 (by decide) ?_
      obtain ⟨r36, σ35, q34, h⟩ := bd_some h
      refine s_callVi [.int (15 : Int32)] dX4_readRule_27 ml_RX4_127 h_a0 ⟨_, rfl, by decide⟩ rfl (v_X4_isWord (d + 43) h_a0 q34) (Nat.le_of_ble_eq_true rfl) ?_
      refine e_if_ne 41 dX4_readRule_30 (by decide) (fun c37 => ?_) (fun c37 => ?_)
      · rw [if_neg c37] at h
        refine e_iload_n 2 dX4_readRule_41 rfl rfl ?_
        refine e_bipush (v := (12 : Int32)) dX4_readRule_42 (by decide) ?_
        refine e_icmp_lt 52 dX4_readRule_44 (by decide) (fun c38 => ?_) (fun c38 => ?_)
        · rw [if_pos c38] at h
          refine s_pick (L' := [(0, .ref a0), (1, .ref a1), (2, .int v)]) [0, 1, 2] rfl ?_
          exact v_X4_readRule_52 d H11 h_a0 h_a1 h
        · rw [if_neg c38] at h
          refine e_aload_n 0 dX4_readRule_47 rfl rfl ?_
          refine e_iconst (v := (4 : Int32)) dX4_readRule_48 (by decide) ?_
          obtain ⟨σ40, q39, h⟩ := bv_some h
          refine s_callVv [.int (4 : Int32)] dX4_readRule_49 ml_RX4_123 h_a0 rfl rfl (v_X4_fail (d + 43) h_a0 q39) (Nat.le_of_ble_eq_true rfl) ?_
          refine s_pick (L' := [(0, .ref a0), (1, .ref a1), (2, .int v)]) [0, 1, 2] rfl ?_
          exact v_X4_readRule_52 d H11 h_a0 h_a1 h
      · rw [if_pos c37] at h
        refine e_aload_n 0 dX4_readRule_33 rfl rfl ?_
        refine e_iconst (v := (0 : Int32)) dX4_readRule_34 (by decide) ?_
        obtain ⟨σ42, q41, h⟩ := bv_some h
        refine s_callVv [.int (0 : Int32)] dX4_readRule_35 ml_RX4_123 h_a0 rfl rfl (v_X4_fail (d + 43) h_a0 q41) (Nat.le_of_ble_eq_true rfl) ?_
        refine e_goto 52 dX4_readRule_38 (by decide) ?_
        refine s_pick (L' := [(0, .ref a0), (1, .ref a1), (2, .int v)]) [0, 1, 2] rfl ?_
        exact v_X4_readRule_52 d H11 h_a0 h_a1 h
def f_X4_readRule (a0 : Nat) (a1 : Nat) (σ : mm_S) : Option (mm_S) :=
    lt (su_i σ a1 1 (0 : Int32)) fun σ47 =>
    bv (f_X4_begin a0 σ47) fun σ50 =>
    f_X4_readRule_11 a0 a1 (0 : Int32) σ50
theorem v_X4_readRule {g : mm_G} (d : Nat) {a0 : Nat} {a1 : Nat} {σ : mm_S} {res : mm_S} (h_a0 : (mm_K a0).1 = 4) (h_a1 : (mm_K a1).1 = 5) (h : f_X4_readRule a0 a1 σ = some res) : SM g (d + 44) yy_X4_readRule [.ref a0, .ref a1] σ .null res := by
  refine s_of (by decide) (Nat.le_of_ble_eq_true rfl) (L := [(0, .ref a0), (1, .ref a1)]) rfl ?_
  unfold f_X4_readRule at h
  refine e_aload_n 1 dX4_readRule_0 rfl rfl ?_
  refine e_iconst (v := (0 : Int32)) dX4_readRule_1 (by decide) ?_
  refine s_puti dX4_readRule_2 fl_RX4_153 h_a1 rfl rfl rfl ?_
  obtain ⟨σ47, q48, h⟩ := lt_some h
  refine s_nms q48 ?_
  refine e_aload_n 0 dX4_readRule_5 rfl rfl ?_
  obtain ⟨σ50, q49, h⟩ := bv_some h
  refine s_callVv [] dX4_readRule_6 ml_RX4_109 h_a0 rfl rfl (v_X4_begin (d + 37) h_a0 q49) (Nat.le_of_ble_eq_true rfl) ?_
  refine e_iconst (v := (0 : Int32)) dX4_readRule_9 (by decide) ?_
  refine e_istore_n (L' := [(0, .ref a0), (1, .ref a1), (2, .int (0 : Int32))]) dX4_readRule_10 rfl (by decide) rfl ?_
  refine s_pick (L' := [(0, .ref a0), (1, .ref a1), (2, .int (0 : Int32))]) [0, 1, 2] rfl ?_
  exact v_X4_readRule_11 d h_a0 h_a1 h
