abbrev yy_X10_isHouseWord : mm_Y := (yX10_isHouseWord, cX10_isHouseWord, 1, (some .boolean))
theorem dX10_isHouseWord_0 : decode cX10_isHouseWord 0 = .ok (.aload_n 0, 1) := by decide +kernel
theorem dX10_isHouseWord_1 : decode cX10_isHouseWord 1 = .ok (.ldc2_w 242, 3) := by decide +kernel
theorem dX10_isHouseWord_4 : decode cX10_isHouseWord 4 = .ok (.invokevirtual 119, 3) := by decide +kernel
theorem dX10_isHouseWord_7 : decode cX10_isHouseWord 7 = .ok (.ifCond .ne 33, 3) := by decide +kernel
theorem dX10_isHouseWord_10 : decode cX10_isHouseWord 10 = .ok (.aload_n 0, 1) := by decide +kernel
theorem dX10_isHouseWord_11 : decode cX10_isHouseWord 11 = .ok (.ldc2_w 140, 3) := by decide +kernel
theorem dX10_isHouseWord_14 : decode cX10_isHouseWord 14 = .ok (.invokevirtual 119, 3) := by decide +kernel
theorem dX10_isHouseWord_17 : decode cX10_isHouseWord 17 = .ok (.ifCond .ne 23, 3) := by decide +kernel
theorem dX10_isHouseWord_20 : decode cX10_isHouseWord 20 = .ok (.aload_n 0, 1) := by decide +kernel
theorem dX10_isHouseWord_21 : decode cX10_isHouseWord 21 = .ok (.ldc2_w 152, 3) := by decide +kernel
theorem dX10_isHouseWord_24 : decode cX10_isHouseWord 24 = .ok (.invokevirtual 119, 3) := by decide +kernel
theorem dX10_isHouseWord_27 : decode cX10_isHouseWord 27 = .ok (.ifCond .ne 13, 3) := by decide +kernel
theorem dX10_isHouseWord_30 : decode cX10_isHouseWord 30 = .ok (.aload_n 0, 1) := by decide +kernel
theorem dX10_isHouseWord_31 : decode cX10_isHouseWord 31 = .ok (.ldc2_w 256, 3) := by decide +kernel
theorem dX10_isHouseWord_34 : decode cX10_isHouseWord 34 = .ok (.invokevirtual 119, 3) := by decide +kernel
theorem dX10_isHouseWord_37 : decode cX10_isHouseWord 37 = .ok (.ifCond .eq 7, 3) := by decide +kernel
theorem dX10_isHouseWord_40 : decode cX10_isHouseWord 40 = .ok (.iconst 1, 1) := by decide +kernel
theorem dX10_isHouseWord_41 : decode cX10_isHouseWord 41 = .ok (.goto 4, 3) := by decide +kernel
theorem dX10_isHouseWord_44 : decode cX10_isHouseWord 44 = .ok (.iconst 0, 1) := by decide +kernel
theorem dX10_isHouseWord_45 : decode cX10_isHouseWord 45 = .ok (.ireturn, 1) := by decide +kernel
def f_X10_isHouseWord (a0 : Nat) (σ : mm_S) : Option (Int32 × mm_S) :=
    bd (f_X10_isWord a0 (8902245 : Int64) σ) fun r19 σ18 =>
    if r19 = 0 then
      bd (f_X10_isWord a0 (418520242 : Int64) σ18) fun r23 σ22 =>
      if r23 = 0 then
        bd (f_X10_isWord a0 (136242 : Int64) σ22) fun r27 σ26 =>
        if r27 = 0 then
          bd (f_X10_isWord a0 (3659220 : Int64) σ26) fun r31 σ30 =>
          if r31 = 0 then
            some ((0 : Int32), σ30)
          else
            some ((1 : Int32), σ30)
        else
          some ((1 : Int32), σ26)
      else
        some ((1 : Int32), σ22)
    else
      some ((1 : Int32), σ18)
theorem v_X10_isHouseWord {g : mm_G} (d : Nat) {a0 : Nat} {σ : mm_S} {res : Int32 × mm_S} (h_a0 : (mm_K a0).1 = 10) (h : f_X10_isHouseWord a0 σ = some res) : SM g (d + 2) yy_X10_isHouseWord [.ref a0] σ (.int res.1) res.2 := by
  refine s_of (by decide) (Nat.le_of_ble_eq_true rfl) (L := [(0, .ref a0)]) rfl ?_
  unfold f_X10_isHouseWord at h
  refine e_aload_n 0 dX10_isHouseWord_0 rfl rfl ?_
  refine e_ldc2 dX10_isHouseWord_1 co_RX10_242 ?_
  obtain ⟨r19, σ18, q17, h⟩ := bd_some h
  refine s_callVi [.long (8902245 : Int64)] dX10_isHouseWord_4 ml_RX10_119 h_a0 ⟨_, rfl, by decide⟩ rfl (v_X10_isWord (d + 0) h_a0 q17) (Nat.le_of_ble_eq_true rfl) ?_
  refine e_if_ne 40 dX10_isHouseWord_7 (by decide) (fun c20 => ?_) (fun c20 => ?_)
  · rw [if_neg c20] at h
    refine e_iconst (v := (1 : Int32)) dX10_isHouseWord_40 (by decide) ?_
    refine e_goto 45 dX10_isHouseWord_41 (by decide) ?_
    obtain rfl := Option.some.inj h
    exact s_ret rfl ⟨_, rfl, nb1 (Or.inr rfl)⟩ dX10_isHouseWord_45
  · rw [if_pos c20] at h
    refine e_aload_n 0 dX10_isHouseWord_10 rfl rfl ?_
    refine e_ldc2 dX10_isHouseWord_11 co_RX10_140 ?_
    obtain ⟨r23, σ22, q21, h⟩ := bd_some h
    refine s_callVi [.long (418520242 : Int64)] dX10_isHouseWord_14 ml_RX10_119 h_a0 ⟨_, rfl, by decide⟩ rfl (v_X10_isWord (d + 0) h_a0 q21) (Nat.le_of_ble_eq_true rfl) ?_
    refine e_if_ne 40 dX10_isHouseWord_17 (by decide) (fun c24 => ?_) (fun c24 => ?_)
    · rw [if_neg c24] at h
      refine e_iconst (v := (1 : Int32)) dX10_isHouseWord_40 (by decide) ?_
      refine e_goto 45 dX10_isHouseWord_41 (by decide) ?_
      obtain rfl := Option.some.inj h
      exact s_ret rfl ⟨_, rfl, nb1 (Or.inr rfl)⟩ dX10_isHouseWord_45
    · rw [if_pos c24] at h
      refine e_aload_n 0 dX10_isHouseWord_20 rfl rfl ?_
      refine e_ldc2 dX10_isHouseWord_21 co_RX10_152 ?_
      obtain ⟨r27, σ26, q25, h⟩ := bd_some h
      refine s_callVi [.long (136242 : Int64)] dX10_isHouseWord_24 ml_RX10_119 h_a0 ⟨_, rfl, by decide⟩ rfl (v_X10_isWord (d + 0) h_a0 q25) (Nat.le_of_ble_eq_true rfl) ?_
      refine e_if_ne 40 dX10_isHouseWord_27 (by decide) (fun c28 => ?_) (fun c28 => ?_)
      · rw [if_neg c28] at h
        refine e_iconst (v := (1 : Int32)) dX10_isHouseWord_40 (by decide) ?_
        refine e_goto 45 dX10_isHouseWord_41 (by decide) ?_
        obtain rfl := Option.some.inj h
        exact s_ret rfl ⟨_, rfl, nb1 (Or.inr rfl)⟩ dX10_isHouseWord_45
      · rw [if_pos c28] at h
        refine e_aload_n 0 dX10_isHouseWord_30 rfl rfl ?_
        refine e_ldc2 dX10_isHouseWord_31 co_RX10_256 ?_
        obtain ⟨r31, σ30, q29, h⟩ := bd_some h
        refine s_callVi [.long (3659220 : Int64)] dX10_isHouseWord_34 ml_RX10_119 h_a0 ⟨_, rfl, by decide⟩ rfl (v_X10_isWord (d + 0) h_a0 q29) (Nat.le_of_ble_eq_true rfl) ?_
        refine e_if_eq 44 dX10_isHouseWord_37 (by decide) (fun c32 => ?_) (fun c32 => ?_)
        · rw [if_pos c32] at h
          refine e_iconst (v := (0 : Int32)) dX10_isHouseWord_44 (by decide) ?_
          obtain rfl := Option.some.inj h
          exact s_ret rfl ⟨_, rfl, nb1 (Or.inl rfl)⟩ dX10_isHouseWord_45
        · rw [if_neg c32] at h
          refine e_iconst (v := (1 : Int32)) dX10_isHouseWord_40 (by decide) ?_
          refine e_goto 45 dX10_isHouseWord_41 (by decide) ?_
          obtain rfl := Option.some.inj h
          exact s_ret rfl ⟨_, rfl, nb1 (Or.inr rfl)⟩ dX10_isHouseWord_45
abbrev yy_X10_clauseHere : mm_Y := (yX10_clauseHere, cX10_clauseHere, 3, (some .boolean))
theorem dX10_clauseHere_0 : decode cX10_clauseHere 0 = .ok (.aload_n 0, 1) := by decide +kernel
theorem dX10_clauseHere_1 : decode cX10_clauseHere 1 = .ok (.invokevirtual 111, 3) := by decide +kernel
theorem dX10_clauseHere_4 : decode cX10_clauseHere 4 = .ok (.pop, 1) := by decide +kernel
theorem dX10_clauseHere_5 : decode cX10_clauseHere 5 = .ok (.aload_n 0, 1) := by decide +kernel
theorem dX10_clauseHere_6 : decode cX10_clauseHere 6 = .ok (.getfield 108, 3) := by decide +kernel
theorem dX10_clauseHere_9 : decode cX10_clauseHere 9 = .ok (.istore_n 1, 1) := by decide +kernel
theorem dX10_clauseHere_10 : decode cX10_clauseHere 10 = .ok (.aload_n 0, 1) := by decide +kernel
theorem dX10_clauseHere_11 : decode cX10_clauseHere 11 = .ok (.getfield 166, 3) := by decide +kernel
theorem dX10_clauseHere_14 : decode cX10_clauseHere 14 = .ok (.bipush 6, 2) := by decide +kernel
theorem dX10_clauseHere_16 : decode cX10_clauseHere 16 = .ok (.if_icmp .ne 7, 3) := by decide +kernel
theorem dX10_clauseHere_19 : decode cX10_clauseHere 19 = .ok (.iconst 1, 1) := by decide +kernel
theorem dX10_clauseHere_20 : decode cX10_clauseHere 20 = .ok (.goto 4, 3) := by decide +kernel
theorem dX10_clauseHere_23 : decode cX10_clauseHere 23 = .ok (.iconst 0, 1) := by decide +kernel
theorem dX10_clauseHere_24 : decode cX10_clauseHere 24 = .ok (.istore_n 2, 1) := by decide +kernel
theorem dX10_clauseHere_25 : decode cX10_clauseHere 25 = .ok (.iload_n 2, 1) := by decide +kernel
theorem dX10_clauseHere_26 : decode cX10_clauseHere 26 = .ok (.ifCond .eq 13, 3) := by decide +kernel
theorem dX10_clauseHere_29 : decode cX10_clauseHere 29 = .ok (.aload_n 0, 1) := by decide +kernel
theorem dX10_clauseHere_30 : decode cX10_clauseHere 30 = .ok (.invokevirtual 258, 3) := by decide +kernel
theorem dX10_clauseHere_33 : decode cX10_clauseHere 33 = .ok (.ifCond .ne 23, 3) := by decide +kernel
theorem dX10_clauseHere_36 : decode cX10_clauseHere 36 = .ok (.goto 13, 3) := by decide +kernel
theorem dX10_clauseHere_39 : decode cX10_clauseHere 39 = .ok (.aload_n 0, 1) := by decide +kernel
theorem dX10_clauseHere_40 : decode cX10_clauseHere 40 = .ok (.ldc2_w 261, 3) := by decide +kernel
theorem dX10_clauseHere_43 : decode cX10_clauseHere 43 = .ok (.invokevirtual 119, 3) := by decide +kernel
theorem dX10_clauseHere_46 : decode cX10_clauseHere 46 = .ok (.ifCond .ne 10, 3) := by decide +kernel
theorem dX10_clauseHere_49 : decode cX10_clauseHere 49 = .ok (.aload_n 0, 1) := by decide +kernel
theorem dX10_clauseHere_50 : decode cX10_clauseHere 50 = .ok (.iconst 0, 1) := by decide +kernel
theorem dX10_clauseHere_51 : decode cX10_clauseHere 51 = .ok (.iload_n 1, 1) := by decide +kernel
theorem dX10_clauseHere_52 : decode cX10_clauseHere 52 = .ok (.invokevirtual 129, 3) := by decide +kernel
theorem dX10_clauseHere_55 : decode cX10_clauseHere 55 = .ok (.ireturn, 1) := by decide +kernel
theorem dX10_clauseHere_56 : decode cX10_clauseHere 56 = .ok (.aload_n 0, 1) := by decide +kernel
theorem dX10_clauseHere_57 : decode cX10_clauseHere 57 = .ok (.getfield 263, 3) := by decide +kernel
theorem dX10_clauseHere_60 : decode cX10_clauseHere 60 = .ok (.iload_n 2, 1) := by decide +kernel
theorem dX10_clauseHere_61 : decode cX10_clauseHere 61 = .ok (.ifCond .eq 8, 3) := by decide +kernel
theorem dX10_clauseHere_64 : decode cX10_clauseHere 64 = .ok (.bipush 40, 2) := by decide +kernel
theorem dX10_clauseHere_66 : decode cX10_clauseHere 66 = .ok (.goto 5, 3) := by decide +kernel
theorem dX10_clauseHere_69 : decode cX10_clauseHere 69 = .ok (.bipush 12, 2) := by decide +kernel
theorem dX10_clauseHere_71 : decode cX10_clauseHere 71 = .ok (.if_icmp .ne 10, 3) := by decide +kernel
theorem dX10_clauseHere_74 : decode cX10_clauseHere 74 = .ok (.aload_n 0, 1) := by decide +kernel
theorem dX10_clauseHere_75 : decode cX10_clauseHere 75 = .ok (.iconst 4, 1) := by decide +kernel
theorem dX10_clauseHere_76 : decode cX10_clauseHere 76 = .ok (.iload_n 1, 1) := by decide +kernel
theorem dX10_clauseHere_77 : decode cX10_clauseHere 77 = .ok (.invokevirtual 129, 3) := by decide +kernel
theorem dX10_clauseHere_80 : decode cX10_clauseHere 80 = .ok (.ireturn, 1) := by decide +kernel
theorem dX10_clauseHere_81 : decode cX10_clauseHere 81 = .ok (.aload_n 0, 1) := by decide +kernel
theorem dX10_clauseHere_82 : decode cX10_clauseHere 82 = .ok (.dup, 1) := by decide +kernel
theorem dX10_clauseHere_83 : decode cX10_clauseHere 83 = .ok (.getfield 263, 3) := by decide +kernel
theorem dX10_clauseHere_86 : decode cX10_clauseHere 86 = .ok (.iconst 1, 1) := by decide +kernel
theorem dX10_clauseHere_87 : decode cX10_clauseHere 87 = .ok (.iadd, 1) := by decide +kernel
theorem dX10_clauseHere_88 : decode cX10_clauseHere 88 = .ok (.putfield 263, 3) := by decide +kernel
theorem dX10_clauseHere_91 : decode cX10_clauseHere 91 = .ok (.iload_n 2, 1) := by decide +kernel
theorem dX10_clauseHere_92 : decode cX10_clauseHere 92 = .ok (.ifCond .eq 11, 3) := by decide +kernel
theorem dX10_clauseHere_95 : decode cX10_clauseHere 95 = .ok (.aload_n 0, 1) := by decide +kernel
theorem dX10_clauseHere_96 : decode cX10_clauseHere 96 = .ok (.iload_n 1, 1) := by decide +kernel
theorem dX10_clauseHere_97 : decode cX10_clauseHere 97 = .ok (.invokevirtual 266, 3) := by decide +kernel
theorem dX10_clauseHere_100 : decode cX10_clauseHere 100 = .ok (.goto 7, 3) := by decide +kernel
theorem dX10_clauseHere_103 : decode cX10_clauseHere 103 = .ok (.aload_n 0, 1) := by decide +kernel
theorem dX10_clauseHere_104 : decode cX10_clauseHere 104 = .ok (.invokevirtual 269, 3) := by decide +kernel
theorem dX10_clauseHere_107 : decode cX10_clauseHere 107 = .ok (.ireturn, 1) := by decide +kernel
def f_X10_clauseHere_71 (a0 : Nat) (i1 : Int32) (i2 : Int32) (s0 : Int32) (s1 : Int32) (σ : mm_S) : Option (Int32 × mm_S) :=
    if s0 = s1 then
      bd (f_X10_fails a0 (4 : Int32) i1 σ) fun r15 σ14 =>
      gb r15 <|
      some (r15, σ14)
    else
      lt (su_i σ a0 14 ((σ.1 a0 14) + (1 : Int32))) fun σ2 =>
      if i2 = 0 then
        bd (f_X10_isSeekHere a0 σ2) fun r7 σ6 =>
        gb r7 <|
        some (r7, σ6)
      else
        bd (f_X10_houseLineHere a0 i1 σ2) fun r11 σ10 =>
        gb r11 <|
        some (r11, σ10)
theorem v_X10_clauseHere_71 {g : mm_G} (d : Nat) {a0 : Nat} {i1 : Int32} {i2 : Int32} {s0 : Int32} {s1 : Int32} {σ : mm_S} {res : Int32 × mm_S}  (h_a0 : (mm_K a0).1 = 10) (h : f_X10_clauseHere_71 a0 i1 i2 s0 s1 σ = some res) : SV g (d + 10) yy_X10_clauseHere 71 [(0, .ref a0), (1, .int i1), (2, .int i2)] [.int s1, .int s0] σ (.int res.1) res.2 := by
  unfold f_X10_clauseHere_71 at h
  refine e_icmp_ne 81 dX10_clauseHere_71 (by decide) (fun c1 => ?_) (fun c1 => ?_)
  · rw [if_neg c1] at h
    refine e_aload_n 0 dX10_clauseHere_81 rfl rfl ?_
    refine e_dup dX10_clauseHere_82 rfl ?_
    refine s_geti dX10_clauseHere_83 fl_RX10_263 h_a0 ?_
    refine e_iconst (v := (1 : Int32)) dX10_clauseHere_86 (by decide) ?_
    refine e_iadd dX10_clauseHere_87 ?_
    refine s_puti dX10_clauseHere_88 fl_RX10_263 h_a0 rfl rfl rfl ?_
    obtain ⟨σ2, q3, h⟩ := lt_some h
    refine s_nms q3 ?_
    refine e_iload_n 2 dX10_clauseHere_91 rfl rfl ?_
    refine e_if_eq 103 dX10_clauseHere_92 (by decide) (fun c4 => ?_) (fun c4 => ?_)
    · rw [if_pos c4] at h
      refine e_aload_n 0 dX10_clauseHere_103 rfl rfl ?_
      obtain ⟨r7, σ6, q5, h⟩ := bd_some h
      refine s_callVi [] dX10_clauseHere_104 ml_RX10_269 h_a0 ⟨_, rfl, by decide⟩ rfl (v_X10_isSeekHere (d + 0) h_a0 q5) (Nat.le_of_ble_eq_true rfl) ?_
      obtain ⟨q8, h⟩ := gb_some h
      obtain rfl := Option.some.inj h
      exact s_ret rfl ⟨_, rfl, nb1 q8⟩ dX10_clauseHere_107
    · rw [if_neg c4] at h
      refine e_aload_n 0 dX10_clauseHere_95 rfl rfl ?_
      refine e_iload_n 1 dX10_clauseHere_96 rfl rfl ?_
      obtain ⟨r11, σ10, q9, h⟩ := bd_some h
      refine s_callVi [.int i1] dX10_clauseHere_97 ml_RX10_266 h_a0 ⟨_, rfl, by decide⟩ rfl (v_X10_houseLineHere (d + 5) h_a0 q9) (Nat.le_of_ble_eq_true rfl) ?_
      refine e_goto 107 dX10_clauseHere_100 (by decide) ?_
      obtain ⟨q12, h⟩ := gb_some h
      obtain rfl := Option.some.inj h
      exact s_ret rfl ⟨_, rfl, nb1 q12⟩ dX10_clauseHere_107
  · rw [if_pos c1] at h
    refine e_aload_n 0 dX10_clauseHere_74 rfl rfl ?_
    refine e_iconst (v := (4 : Int32)) dX10_clauseHere_75 (by decide) ?_
    refine e_iload_n 1 dX10_clauseHere_76 rfl rfl ?_
    obtain ⟨r15, σ14, q13, h⟩ := bd_some h
    refine s_callVi [.int (4 : Int32), .int i1] dX10_clauseHere_77 ml_RX10_129 h_a0 ⟨_, rfl, by decide⟩ rfl (v_X10_fails (d + 9) h_a0 q13) (Nat.le_of_ble_eq_true rfl) ?_
    obtain ⟨q16, h⟩ := gb_some h
    obtain rfl := Option.some.inj h
    exact s_ret rfl ⟨_, rfl, nb1 q16⟩ dX10_clauseHere_80
def f_X10_clauseHere_56 (a0 : Nat) (i1 : Int32) (i2 : Int32) (σ : mm_S) : Option (Int32 × mm_S) :=
    if i2 = 0 then
      f_X10_clauseHere_71 a0 i1 i2 (σ.1 a0 14) (12 : Int32) σ
    else
      f_X10_clauseHere_71 a0 i1 i2 (σ.1 a0 14) (40 : Int32) σ
theorem v_X10_clauseHere_56 {g : mm_G} (d : Nat) {a0 : Nat} {i1 : Int32} {i2 : Int32} {σ : mm_S} {res : Int32 × mm_S}  (h_a0 : (mm_K a0).1 = 10) (h : f_X10_clauseHere_56 a0 i1 i2 σ = some res) : SV g (d + 10) yy_X10_clauseHere 56 [(0, .ref a0), (1, .int i1), (2, .int i2)] [] σ (.int res.1) res.2 := by
  unfold f_X10_clauseHere_56 at h
  refine e_aload_n 0 dX10_clauseHere_56 rfl rfl ?_
  refine s_geti dX10_clauseHere_57 fl_RX10_263 h_a0 ?_
  refine e_iload_n 2 dX10_clauseHere_60 rfl rfl ?_
  refine e_if_eq 69 dX10_clauseHere_61 (by decide) (fun c17 => ?_) (fun c17 => ?_)
  · rw [if_pos c17] at h
    refine e_bipush (v := (12 : Int32)) dX10_clauseHere_69 (by decide) ?_
    refine s_pick (L' := [(0, .ref a0), (1, .int i1), (2, .int i2)]) [0, 1, 2] rfl ?_
    exact v_X10_clauseHere_71 d h_a0 h
  · rw [if_neg c17] at h
    refine e_bipush (v := (40 : Int32)) dX10_clauseHere_64 (by decide) ?_
    refine e_goto 71 dX10_clauseHere_66 (by decide) ?_
    refine s_pick (L' := [(0, .ref a0), (1, .int i1), (2, .int i2)]) [0, 1, 2] rfl ?_
    exact v_X10_clauseHere_71 d h_a0 h
def f_X10_clauseHere_24 (a0 : Nat) (i1 : Int32) (s0 : Int32) (σ : mm_S) : Option (Int32 × mm_S) :=
    if s0 = 0 then
      bd (f_X10_isWord a0 (627883 : Int64) σ) fun r21 σ20 =>
      if r21 = 0 then
        bd (f_X10_fails a0 (0 : Int32) i1 σ20) fun r25 σ24 =>
        gb r25 <|
        some (r25, σ24)
      else
        f_X10_clauseHere_56 a0 i1 s0 σ20
    else
      bd (f_X10_isHouseWord a0 σ) fun r29 σ28 =>
      if r29 = 0 then
        bd (f_X10_fails a0 (0 : Int32) i1 σ28) fun r33 σ32 =>
        gb r33 <|
        some (r33, σ32)
      else
        f_X10_clauseHere_56 a0 i1 s0 σ28
theorem v_X10_clauseHere_24 {g : mm_G} (d : Nat) {a0 : Nat} {i1 : Int32} {s0 : Int32} {σ : mm_S} {res : Int32 × mm_S}  (h_a0 : (mm_K a0).1 = 10) (h : f_X10_clauseHere_24 a0 i1 s0 σ = some res) : SV g (d + 10) yy_X10_clauseHere 24 [(0, .ref a0), (1, .int i1)] [.int s0] σ (.int res.1) res.2 := by
  unfold f_X10_clauseHere_24 at h
  refine e_istore_n (L' := [(0, .ref a0), (1, .int i1), (2, .int s0)]) dX10_clauseHere_24 rfl (by decide) rfl ?_
  refine e_iload_n 2 dX10_clauseHere_25 rfl rfl ?_
  refine e_if_eq 39 dX10_clauseHere_26 (by decide) (fun c18 => ?_) (fun c18 => ?_)
  · rw [if_pos c18] at h
    refine e_aload_n 0 dX10_clauseHere_39 rfl rfl ?_
    refine e_ldc2 dX10_clauseHere_40 co_RX10_261 ?_
    obtain ⟨r21, σ20, q19, h⟩ := bd_some h
    refine s_callVi [.long (627883 : Int64)] dX10_clauseHere_43 ml_RX10_119 h_a0 ⟨_, rfl, by decide⟩ rfl (v_X10_isWord (d + 8) h_a0 q19) (Nat.le_of_ble_eq_true rfl) ?_
    refine e_if_ne 56 dX10_clauseHere_46 (by decide) (fun c22 => ?_) (fun c22 => ?_)
    · rw [if_neg c22] at h
      refine s_pick (L' := [(0, .ref a0), (1, .int i1), (2, .int s0)]) [0, 1, 2] rfl ?_
      exact v_X10_clauseHere_56 d h_a0 h
    · rw [if_pos c22] at h
      refine e_aload_n 0 dX10_clauseHere_49 rfl rfl ?_
      refine e_iconst (v := (0 : Int32)) dX10_clauseHere_50 (by decide) ?_
      refine e_iload_n 1 dX10_clauseHere_51 rfl rfl ?_
      obtain ⟨r25, σ24, q23, h⟩ := bd_some h
      refine s_callVi [.int (0 : Int32), .int i1] dX10_clauseHere_52 ml_RX10_129 h_a0 ⟨_, rfl, by decide⟩ rfl (v_X10_fails (d + 9) h_a0 q23) (Nat.le_of_ble_eq_true rfl) ?_
      obtain ⟨q26, h⟩ := gb_some h
      obtain rfl := Option.some.inj h
      exact s_ret rfl ⟨_, rfl, nb1 q26⟩ dX10_clauseHere_55
  · rw [if_neg c18] at h
    refine e_aload_n 0 dX10_clauseHere_29 rfl rfl ?_
    obtain ⟨r29, σ28, q27, h⟩ := bd_some h
    refine s_callVi [] dX10_clauseHere_30 ml_RX10_258 h_a0 ⟨_, rfl, by decide⟩ rfl (v_X10_isHouseWord (d + 7) h_a0 q27) (Nat.le_of_ble_eq_true rfl) ?_
    refine e_if_ne 56 dX10_clauseHere_33 (by decide) (fun c30 => ?_) (fun c30 => ?_)
    · rw [if_neg c30] at h
      refine s_pick (L' := [(0, .ref a0), (1, .int i1), (2, .int s0)]) [0, 1, 2] rfl ?_
      exact v_X10_clauseHere_56 d h_a0 h
    · rw [if_pos c30] at h
      refine e_goto 49 dX10_clauseHere_36 (by decide) ?_
      refine e_aload_n 0 dX10_clauseHere_49 rfl rfl ?_
      refine e_iconst (v := (0 : Int32)) dX10_clauseHere_50 (by decide) ?_
      refine e_iload_n 1 dX10_clauseHere_51 rfl rfl ?_
      obtain ⟨r33, σ32, q31, h⟩ := bd_some h
      refine s_callVi [.int (0 : Int32), .int i1] dX10_clauseHere_52 ml_RX10_129 h_a0 ⟨_, rfl, by decide⟩ rfl (v_X10_fails (d + 9) h_a0 q31) (Nat.le_of_ble_eq_true rfl) ?_
      obtain ⟨q34, h⟩ := gb_some h
      obtain rfl := Option.some.inj h
      exact s_ret rfl ⟨_, rfl, nb1 q34⟩ dX10_clauseHere_55
def f_X10_clauseHere (a0 : Nat) (σ : mm_S) : Option (Int32 × mm_S) :=
    bd (f_X10_see a0 σ) fun r43 σ42 =>
    lt ((σ42.1 a0 8)) fun x44 =>
    if (σ42.1 a0 11) = (6 : Int32) then
      f_X10_clauseHere_24 a0 x44 (1 : Int32) σ42
    else
      f_X10_clauseHere_24 a0 x44 (0 : Int32) σ42
theorem v_X10_clauseHere {g : mm_G} (d : Nat) {a0 : Nat} {σ : mm_S} {res : Int32 × mm_S} (h_a0 : (mm_K a0).1 = 10) (h : f_X10_clauseHere a0 σ = some res) : SM g (d + 10) yy_X10_clauseHere [.ref a0] σ (.int res.1) res.2 := by
  refine s_of (by decide) (Nat.le_of_ble_eq_true rfl) (L := [(0, .ref a0)]) rfl ?_
  unfold f_X10_clauseHere at h
  refine e_aload_n 0 dX10_clauseHere_0 rfl rfl ?_
  obtain ⟨r43, σ42, q41, h⟩ := bd_some h
  refine s_callVi [] dX10_clauseHere_1 ml_RX10_111 h_a0 ⟨_, rfl, by decide⟩ rfl (v_X10_see (d + 9) h_a0 q41) (Nat.le_of_ble_eq_true rfl) ?_
  refine e_pop dX10_clauseHere_4 rfl ?_
  refine e_aload_n 0 dX10_clauseHere_5 rfl rfl ?_
  refine s_geti dX10_clauseHere_6 fl_RX10_108 h_a0 ?_
  obtain ⟨x44, q45, h⟩ := lt_some h
  refine s_nmi q45 ?_
  refine e_istore_n (L' := [(0, .ref a0), (1, .int x44)]) dX10_clauseHere_9 rfl (by decide) rfl ?_
  refine e_aload_n 0 dX10_clauseHere_10 rfl rfl ?_
  refine s_geti dX10_clauseHere_11 fl_RX10_166 h_a0 ?_
  refine e_bipush (v := (6 : Int32)) dX10_clauseHere_14 (by decide) ?_
  refine e_icmp_ne 23 dX10_clauseHere_16 (by decide) (fun c46 => ?_) (fun c46 => ?_)
  · rw [if_neg c46] at h
    refine e_iconst (v := (0 : Int32)) dX10_clauseHere_23 (by decide) ?_
    refine s_pick (L' := [(0, .ref a0), (1, .int x44)]) [0, 1] rfl ?_
    exact v_X10_clauseHere_24 d h_a0 h
  · rw [if_pos c46] at h
    refine e_iconst (v := (1 : Int32)) dX10_clauseHere_19 (by decide) ?_
    refine e_goto 24 dX10_clauseHere_20 (by decide) ?_
    refine s_pick (L' := [(0, .ref a0), (1, .int x44)]) [0, 1] rfl ?_
    exact v_X10_clauseHere_24 d h_a0 h
abbrev yy_X10_readsAll : mm_Y := (yX10_readsAll, cX10_readsAll, 2, (some .boolean))
theorem dX10_readsAll_0 : decode cX10_readsAll 0 = .ok (.aload_n 0, 1) := by decide +kernel
theorem dX10_readsAll_1 : decode cX10_readsAll 1 = .ok (.getfield 17, 3) := by decide +kernel
theorem dX10_readsAll_4 : decode cX10_readsAll 4 = .ok (.aload_n 0, 1) := by decide +kernel
theorem dX10_readsAll_5 : decode cX10_readsAll 5 = .ok (.getfield 166, 3) := by decide +kernel
theorem dX10_readsAll_8 : decode cX10_readsAll 8 = .ok (.iconst 0, 1) := by decide +kernel
theorem dX10_readsAll_9 : decode cX10_readsAll 9 = .ok (.iastore, 1) := by decide +kernel
theorem dX10_readsAll_10 : decode cX10_readsAll 10 = .ok (.aload_n 0, 1) := by decide +kernel
theorem dX10_readsAll_11 : decode cX10_readsAll 11 = .ok (.iconst 0, 1) := by decide +kernel
theorem dX10_readsAll_12 : decode cX10_readsAll 12 = .ok (.putfield 263, 3) := by decide +kernel
theorem dX10_readsAll_15 : decode cX10_readsAll 15 = .ok (.aload_n 0, 1) := by decide +kernel
theorem dX10_readsAll_16 : decode cX10_readsAll 16 = .ok (.iconst 0, 1) := by decide +kernel
theorem dX10_readsAll_17 : decode cX10_readsAll 17 = .ok (.putfield 108, 3) := by decide +kernel
theorem dX10_readsAll_20 : decode cX10_readsAll 20 = .ok (.aload_n 0, 1) := by decide +kernel
theorem dX10_readsAll_21 : decode cX10_readsAll 21 = .ok (.iconst 0, 1) := by decide +kernel
theorem dX10_readsAll_22 : decode cX10_readsAll 22 = .ok (.putfield 105, 3) := by decide +kernel
theorem dX10_readsAll_25 : decode cX10_readsAll 25 = .ok (.aload_n 0, 1) := by decide +kernel
theorem dX10_readsAll_26 : decode cX10_readsAll 26 = .ok (.iconst 0, 1) := by decide +kernel
theorem dX10_readsAll_27 : decode cX10_readsAll 27 = .ok (.putfield 169, 3) := by decide +kernel
theorem dX10_readsAll_30 : decode cX10_readsAll 30 = .ok (.aload_n 0, 1) := by decide +kernel
theorem dX10_readsAll_31 : decode cX10_readsAll 31 = .ok (.invokevirtual 272, 3) := by decide +kernel
theorem dX10_readsAll_34 : decode cX10_readsAll 34 = .ok (.istore_n 1, 1) := by decide +kernel
theorem dX10_readsAll_35 : decode cX10_readsAll 35 = .ok (.iload_n 1, 1) := by decide +kernel
theorem dX10_readsAll_36 : decode cX10_readsAll 36 = .ok (.ifCond .eq 30, 3) := by decide +kernel
theorem dX10_readsAll_39 : decode cX10_readsAll 39 = .ok (.aload_n 0, 1) := by decide +kernel
theorem dX10_readsAll_40 : decode cX10_readsAll 40 = .ok (.invokevirtual 111, 3) := by decide +kernel
theorem dX10_readsAll_43 : decode cX10_readsAll 43 = .ok (.bipush 59, 2) := by decide +kernel
theorem dX10_readsAll_45 : decode cX10_readsAll 45 = .ok (.if_icmp .ne 21, 3) := by decide +kernel
theorem dX10_readsAll_48 : decode cX10_readsAll 48 = .ok (.aload_n 0, 1) := by decide +kernel
theorem dX10_readsAll_49 : decode cX10_readsAll 49 = .ok (.dup, 1) := by decide +kernel
theorem dX10_readsAll_50 : decode cX10_readsAll 50 = .ok (.getfield 108, 3) := by decide +kernel
theorem dX10_readsAll_53 : decode cX10_readsAll 53 = .ok (.iconst 1, 1) := by decide +kernel
theorem dX10_readsAll_54 : decode cX10_readsAll 54 = .ok (.iadd, 1) := by decide +kernel
theorem dX10_readsAll_55 : decode cX10_readsAll 55 = .ok (.putfield 108, 3) := by decide +kernel
theorem dX10_readsAll_58 : decode cX10_readsAll 58 = .ok (.aload_n 0, 1) := by decide +kernel
theorem dX10_readsAll_59 : decode cX10_readsAll 59 = .ok (.invokevirtual 272, 3) := by decide +kernel
theorem dX10_readsAll_62 : decode cX10_readsAll 62 = .ok (.istore_n 1, 1) := by decide +kernel
theorem dX10_readsAll_63 : decode cX10_readsAll 63 = .ok (.goto (-28), 3) := by decide +kernel
theorem dX10_readsAll_66 : decode cX10_readsAll 66 = .ok (.iload_n 1, 1) := by decide +kernel
theorem dX10_readsAll_67 : decode cX10_readsAll 67 = .ok (.ifCond .eq 21, 3) := by decide +kernel
theorem dX10_readsAll_70 : decode cX10_readsAll 70 = .ok (.aload_n 0, 1) := by decide +kernel
theorem dX10_readsAll_71 : decode cX10_readsAll 71 = .ok (.invokevirtual 111, 3) := by decide +kernel
theorem dX10_readsAll_74 : decode cX10_readsAll 74 = .ok (.iconst (-1), 1) := by decide +kernel
theorem dX10_readsAll_75 : decode cX10_readsAll 75 = .ok (.if_icmp .eq 13, 3) := by decide +kernel
theorem dX10_readsAll_78 : decode cX10_readsAll 78 = .ok (.aload_n 0, 1) := by decide +kernel
theorem dX10_readsAll_79 : decode cX10_readsAll 79 = .ok (.iconst 0, 1) := by decide +kernel
theorem dX10_readsAll_80 : decode cX10_readsAll 80 = .ok (.aload_n 0, 1) := by decide +kernel
theorem dX10_readsAll_81 : decode cX10_readsAll 81 = .ok (.getfield 108, 3) := by decide +kernel
theorem dX10_readsAll_84 : decode cX10_readsAll 84 = .ok (.invokevirtual 129, 3) := by decide +kernel
theorem dX10_readsAll_87 : decode cX10_readsAll 87 = .ok (.pop, 1) := by decide +kernel
theorem dX10_readsAll_88 : decode cX10_readsAll 88 = .ok (.aload_n 0, 1) := by decide +kernel
theorem dX10_readsAll_89 : decode cX10_readsAll 89 = .ok (.iconst 0, 1) := by decide +kernel
theorem dX10_readsAll_90 : decode cX10_readsAll 90 = .ok (.putfield 98, 3) := by decide +kernel
theorem dX10_readsAll_93 : decode cX10_readsAll 93 = .ok (.aload_n 0, 1) := by decide +kernel
theorem dX10_readsAll_94 : decode cX10_readsAll 94 = .ok (.getfield 105, 3) := by decide +kernel
theorem dX10_readsAll_97 : decode cX10_readsAll 97 = .ok (.ifCond .ne 7, 3) := by decide +kernel
theorem dX10_readsAll_100 : decode cX10_readsAll 100 = .ok (.iconst 1, 1) := by decide +kernel
theorem dX10_readsAll_101 : decode cX10_readsAll 101 = .ok (.goto 4, 3) := by decide +kernel
theorem dX10_readsAll_104 : decode cX10_readsAll 104 = .ok (.iconst 0, 1) := by decide +kernel
theorem dX10_readsAll_105 : decode cX10_readsAll 105 = .ok (.ireturn, 1) := by decide +kernel
def f_X10_readsAll_88 (a0 : Nat) (σ : mm_S) : Option (Int32 × mm_S) :=
    lt (su_i σ a0 1 (0 : Int32)) fun σ1 =>
    if (σ1.1 a0 9) = 0 then
      some ((1 : Int32), σ1)
    else
      some ((0 : Int32), σ1)
theorem v_X10_readsAll_88 {g : mm_G} (d : Nat) {a0 : Nat} {σ : mm_S} {res : Int32 × mm_S}  (h_a0 : (mm_K a0).1 = 10) (h : f_X10_readsAll_88 a0 σ = some res) : SV g (d + 11) yy_X10_readsAll 88 [(0, .ref a0)] [] σ (.int res.1) res.2 := by
  unfold f_X10_readsAll_88 at h
  refine e_aload_n 0 dX10_readsAll_88 rfl rfl ?_
  refine e_iconst (v := (0 : Int32)) dX10_readsAll_89 (by decide) ?_
  refine s_puti dX10_readsAll_90 fl_RX10_98 h_a0 rfl rfl rfl ?_
  obtain ⟨σ1, q2, h⟩ := lt_some h
  refine s_nms q2 ?_
  refine e_aload_n 0 dX10_readsAll_93 rfl rfl ?_
  refine s_geti dX10_readsAll_94 fl_RX10_105 h_a0 ?_
  refine e_if_ne 104 dX10_readsAll_97 (by decide) (fun c3 => ?_) (fun c3 => ?_)
  · rw [if_neg c3] at h
    refine e_iconst (v := (0 : Int32)) dX10_readsAll_104 (by decide) ?_
    obtain rfl := Option.some.inj h
    exact s_ret rfl ⟨_, rfl, nb1 (Or.inl rfl)⟩ dX10_readsAll_105
  · rw [if_pos c3] at h
    refine e_iconst (v := (1 : Int32)) dX10_readsAll_100 (by decide) ?_
    refine e_goto 105 dX10_readsAll_101 (by decide) ?_
    obtain rfl := Option.some.inj h
    exact s_ret rfl ⟨_, rfl, nb1 (Or.inr rfl)⟩ dX10_readsAll_105
def f_X10_readsAll_66 (a0 : Nat) (i1 : Int32) (σ : mm_S) : Option (Int32 × mm_S) :=
    if i1 = 0 then
      f_X10_readsAll_88 a0 σ
    else
      bd (f_X10_see a0 σ) fun r7 σ6 =>
      if r7 = (-1 : Int32) then
        f_X10_readsAll_88 a0 σ6
      else
        bd (f_X10_fails a0 (0 : Int32) (σ6.1 a0 8) σ6) fun r11 σ10 =>
        f_X10_readsAll_88 a0 σ10
theorem v_X10_readsAll_66 {g : mm_G} (d : Nat) {a0 : Nat} {i1 : Int32} {σ : mm_S} {res : Int32 × mm_S}  (h_a0 : (mm_K a0).1 = 10) (h : f_X10_readsAll_66 a0 i1 σ = some res) : SV g (d + 11) yy_X10_readsAll 66 [(0, .ref a0), (1, .int i1)] [] σ (.int res.1) res.2 := by
  unfold f_X10_readsAll_66 at h
  refine e_iload_n 1 dX10_readsAll_66 rfl rfl ?_
  refine e_if_eq 88 dX10_readsAll_67 (by decide) (fun c4 => ?_) (fun c4 => ?_)
  · rw [if_pos c4] at h
    refine s_pick (L' := [(0, .ref a0)]) [0] rfl ?_
    exact v_X10_readsAll_88 d h_a0 h
  · rw [if_neg c4] at h
    refine e_aload_n 0 dX10_readsAll_70 rfl rfl ?_
    obtain ⟨r7, σ6, q5, h⟩ := bd_some h
    refine s_callVi [] dX10_readsAll_71 ml_RX10_111 h_a0 ⟨_, rfl, by decide⟩ rfl (v_X10_see (d + 10) h_a0 q5) (Nat.le_of_ble_eq_true rfl) ?_
    refine e_iconst (v := (-1 : Int32)) dX10_readsAll_74 (by decide) ?_
    refine e_icmp_eq 88 dX10_readsAll_75 (by decide) (fun c8 => ?_) (fun c8 => ?_)
    · rw [if_pos c8] at h
      refine s_pick (L' := [(0, .ref a0)]) [0] rfl ?_
      exact v_X10_readsAll_88 d h_a0 h
    · rw [if_neg c8] at h
      refine e_aload_n 0 dX10_readsAll_78 rfl rfl ?_
      refine e_iconst (v := (0 : Int32)) dX10_readsAll_79 (by decide) ?_
      refine e_aload_n 0 dX10_readsAll_80 rfl rfl ?_
      refine s_geti dX10_readsAll_81 fl_RX10_108 h_a0 ?_
      obtain ⟨r11, σ10, q9, h⟩ := bd_some h
      refine s_callVi [.int (0 : Int32), .int (σ6.1 a0 8)] dX10_readsAll_84 ml_RX10_129 h_a0 ⟨_, rfl, by decide⟩ rfl (v_X10_fails (d + 10) h_a0 q9) (Nat.le_of_ble_eq_true rfl) ?_
      refine e_pop dX10_readsAll_87 rfl ?_
      refine s_pick (L' := [(0, .ref a0)]) [0] rfl ?_
      exact v_X10_readsAll_88 d h_a0 h
def f_X10_readsAll_35 (a0 : Nat) (i1 : Int32) (σ : mm_S) : Option (Int32 × mm_S) :=
  lp lpN (fun (k35 : (Int32) → mm_S → Option (Int32 × mm_S)) (v : Int32) (σ : mm_S) =>
    if v = 0 then
      f_X10_readsAll_66 a0 v σ
    else
      bd (f_X10_see a0 σ) fun r15 σ14 =>
      if r15 = (59 : Int32) then
        lt (su_i σ14 a0 8 ((σ14.1 a0 8) + (1 : Int32))) fun σ17 =>
        bd (f_X10_clauseHere a0 σ17) fun r21 σ20 =>
        k35 r21 σ20
      else
        f_X10_readsAll_66 a0 v σ14) i1 σ
theorem v_X10_readsAll_35 {g : mm_G} (d : Nat) {a0 : Nat} {i1 : Int32} {σ : mm_S} {res : Int32 × mm_S}  (h_a0 : (mm_K a0).1 = 10) (h : f_X10_readsAll_35 a0 i1 σ = some res) : SV g (d + 11) yy_X10_readsAll 35 [(0, .ref a0), (1, .int i1)] [] σ (.int res.1) res.2 := by
  unfold f_X10_readsAll_35 at h
  refine lp_ind (P := fun v σ => SV g (d + 11) yy_X10_readsAll 35 [(0, .ref a0), (1, .int v)] [] σ (.int res.1) res.2) (fun k35 H35 v σ h => ?_) _ i1 σ h
  refine e_iload_n 1 dX10_readsAll_35 rfl rfl ?_
  refine e_if_eq 66 dX10_readsAll_36 (by decide) (fun c12 => ?_) (fun c12 => ?_)
  · rw [if_pos c12] at h
    refine s_pick (L' := [(0, .ref a0), (1, .int v)]) [0, 1] rfl ?_
    exact v_X10_readsAll_66 d h_a0 h
  · rw [if_neg c12] at h
    refine e_aload_n 0 dX10_readsAll_39 rfl rfl ?_
    obtain ⟨r15, σ14, q13, h⟩ := bd_some h
    refine s_callVi [] dX10_readsAll_40 ml_RX10_111 h_a0 ⟨_, rfl, by decide⟩ rfl (v_X10_see (d + 10) h_a0 q13) (Nat.le_of_ble_eq_true rfl) ?_
    refine e_bipush (v := (59 : Int32)) dX10_readsAll_43 (by decide) ?_
    refine e_icmp_ne 66 dX10_readsAll_45 (by decide) (fun c16 => ?_) (fun c16 => ?_)
    · rw [if_neg c16] at h
      refine s_pick (L' := [(0, .ref a0), (1, .int v)]) [0, 1] rfl ?_
      exact v_X10_readsAll_66 d h_a0 h
    · rw [if_pos c16] at h
      refine e_aload_n 0 dX10_readsAll_48 rfl rfl ?_
      refine e_dup dX10_readsAll_49 rfl ?_
      refine s_geti dX10_readsAll_50 fl_RX10_108 h_a0 ?_
      refine e_iconst (v := (1 : Int32)) dX10_readsAll_53 (by decide) ?_
      refine e_iadd dX10_readsAll_54 ?_
      refine s_puti dX10_readsAll_55 fl_RX10_108 h_a0 rfl rfl rfl ?_
      obtain ⟨σ17, q18, h⟩ := lt_some h
      refine s_nms q18 ?_
      refine e_aload_n 0 dX10_readsAll_58 rfl rfl ?_
      obtain ⟨r21, σ20, q19, h⟩ := bd_some h
      refine s_callVi [] dX10_readsAll_59 ml_RX10_272 h_a0 ⟨_, rfl, by decide⟩ rfl (v_X10_clauseHere (d + 0) h_a0 q19) (Nat.le_of_ble_eq_true rfl) ?_
      refine e_istore_n (L' := [(0, .ref a0), (1, .int r21)]) dX10_readsAll_62 rfl (by decide) rfl ?_
      refine e_goto 35 dX10_readsAll_63 (by decide) ?_
      refine s_pick (L' := [(0, .ref a0), (1, .int r21)]) [0, 1] rfl ?_
      exact H35 r21 σ20 h
def f_X10_readsAll (a0 : Nat) (σ : mm_S) : Option (Int32 × mm_S) :=
    gd (σ.1 a0 11) 7 <|
    lt (su_i σ 217 (σ.1 a0 11).toNatClampNeg (0 : Int32)) fun σ37 =>
    lt (su_i σ37 a0 14 (0 : Int32)) fun σ39 =>
    lt (su_i σ39 a0 8 (0 : Int32)) fun σ41 =>
    lt (su_i σ41 a0 9 (0 : Int32)) fun σ43 =>
    lt (su_i σ43 a0 12 (0 : Int32)) fun σ45 =>
    bd (f_X10_clauseHere a0 σ45) fun r49 σ48 =>
    f_X10_readsAll_35 a0 r49 σ48
theorem v_X10_readsAll {g : mm_G} (d : Nat) {a0 : Nat} {σ : mm_S} {res : Int32 × mm_S} (h_a0 : (mm_K a0).1 = 10) (h : f_X10_readsAll a0 σ = some res) : SM g (d + 11) yy_X10_readsAll [.ref a0] σ (.int res.1) res.2 := by
  refine s_of (by decide) (Nat.le_of_ble_eq_true rfl) (L := [(0, .ref a0)]) rfl ?_
  unfold f_X10_readsAll at h
  refine e_aload_n 0 dX10_readsAll_0 rfl rfl ?_
  refine s_getr dX10_readsAll_1 fl_RX10_17 h_a0 (r_10_4 h_a0).1 ?_
  refine e_aload_n 0 dX10_readsAll_4 rfl rfl ?_
  refine s_geti dX10_readsAll_5 fl_RX10_166 h_a0 ?_
  refine e_iconst (v := (0 : Int32)) dX10_readsAll_8 (by decide) ?_
  obtain ⟨q36, h⟩ := gd_some h
  refine s_iast dX10_readsAll_9 (r_10_4 (w := 0) h_a0).2 q36 ?_
  obtain ⟨σ37, q38, h⟩ := lt_some h
  refine s_nms q38 ?_
  refine e_aload_n 0 dX10_readsAll_10 rfl rfl ?_
  refine e_iconst (v := (0 : Int32)) dX10_readsAll_11 (by decide) ?_
  refine s_puti dX10_readsAll_12 fl_RX10_263 h_a0 rfl rfl rfl ?_
  obtain ⟨σ39, q40, h⟩ := lt_some h
  refine s_nms q40 ?_
  refine e_aload_n 0 dX10_readsAll_15 rfl rfl ?_
  refine e_iconst (v := (0 : Int32)) dX10_readsAll_16 (by decide) ?_
  refine s_puti dX10_readsAll_17 fl_RX10_108 h_a0 rfl rfl rfl ?_
  obtain ⟨σ41, q42, h⟩ := lt_some h
  refine s_nms q42 ?_
  refine e_aload_n 0 dX10_readsAll_20 rfl rfl ?_
  refine e_iconst (v := (0 : Int32)) dX10_readsAll_21 (by decide) ?_
  refine s_puti dX10_readsAll_22 fl_RX10_105 h_a0 rfl rfl rfl ?_
  obtain ⟨σ43, q44, h⟩ := lt_some h
  refine s_nms q44 ?_
  refine e_aload_n 0 dX10_readsAll_25 rfl rfl ?_
  refine e_iconst (v := (0 : Int32)) dX10_readsAll_26 (by decide) ?_
  refine s_puti dX10_readsAll_27 fl_RX10_169 h_a0 rfl rfl rfl ?_
  obtain ⟨σ45, q46, h⟩ := lt_some h
  refine s_nms q46 ?_
  refine e_aload_n 0 dX10_readsAll_30 rfl rfl ?_
  obtain ⟨r49, σ48, q47, h⟩ := bd_some h
  refine s_callVi [] dX10_readsAll_31 ml_RX10_272 h_a0 ⟨_, rfl, by decide⟩ rfl (v_X10_clauseHere (d + 0) h_a0 q47) (Nat.le_of_ble_eq_true rfl) ?_
  refine e_istore_n (L' := [(0, .ref a0), (1, .int r49)]) dX10_readsAll_34 rfl (by decide) rfl ?_
  refine s_pick (L' := [(0, .ref a0), (1, .int r49)]) [0, 1] rfl ?_
  exact v_X10_readsAll_35 d h_a0 h
abbrev yy_X10_rule : mm_Y := (yX10_rule, cX10_rule, 1, (some .int))
theorem dX10_rule_0 : decode cX10_rule 0 = .ok (.aload_n 0, 1) := by decide +kernel
theorem dX10_rule_1 : decode cX10_rule 1 = .ok (.getfield 275, 3) := by decide +kernel
theorem dX10_rule_4 : decode cX10_rule 4 = .ok (.bipush 6, 2) := by decide +kernel
theorem dX10_rule_6 : decode cX10_rule 6 = .ok (.if_icmp .ne 5, 3) := by decide +kernel
theorem dX10_rule_9 : decode cX10_rule 9 = .ok (.iconst (-1), 1) := by decide +kernel
theorem dX10_rule_10 : decode cX10_rule 10 = .ok (.ireturn, 1) := by decide +kernel
theorem dX10_rule_11 : decode cX10_rule 11 = .ok (.aload_n 0, 1) := by decide +kernel
theorem dX10_rule_12 : decode cX10_rule 12 = .ok (.aload_n 0, 1) := by decide +kernel
theorem dX10_rule_13 : decode cX10_rule 13 = .ok (.getfield 275, 3) := by decide +kernel
theorem dX10_rule_16 : decode cX10_rule 16 = .ok (.putfield 166, 3) := by decide +kernel
theorem dX10_rule_19 : decode cX10_rule 19 = .ok (.aload_n 0, 1) := by decide +kernel
theorem dX10_rule_20 : decode cX10_rule 20 = .ok (.getfield 23, 3) := by decide +kernel
theorem dX10_rule_23 : decode cX10_rule 23 = .ok (.aload_n 0, 1) := by decide +kernel
theorem dX10_rule_24 : decode cX10_rule 24 = .ok (.getfield 166, 3) := by decide +kernel
theorem dX10_rule_27 : decode cX10_rule 27 = .ok (.iconst 0, 1) := by decide +kernel
theorem dX10_rule_28 : decode cX10_rule 28 = .ok (.iastore, 1) := by decide +kernel
theorem dX10_rule_29 : decode cX10_rule 29 = .ok (.aload_n 0, 1) := by decide +kernel
theorem dX10_rule_30 : decode cX10_rule 30 = .ok (.invokevirtual 278, 3) := by decide +kernel
theorem dX10_rule_33 : decode cX10_rule 33 = .ok (.ifCond .ne 11, 3) := by decide +kernel
theorem dX10_rule_36 : decode cX10_rule 36 = .ok (.bipush (-2), 2) := by decide +kernel
theorem dX10_rule_38 : decode cX10_rule 38 = .ok (.aload_n 0, 1) := by decide +kernel
theorem dX10_rule_39 : decode cX10_rule 39 = .ok (.getfield 105, 3) := by decide +kernel
theorem dX10_rule_42 : decode cX10_rule 42 = .ok (.isub, 1) := by decide +kernel
theorem dX10_rule_43 : decode cX10_rule 43 = .ok (.ireturn, 1) := by decide +kernel
theorem dX10_rule_44 : decode cX10_rule 44 = .ok (.aload_n 0, 1) := by decide +kernel
theorem dX10_rule_45 : decode cX10_rule 45 = .ok (.dup, 1) := by decide +kernel
theorem dX10_rule_46 : decode cX10_rule 46 = .ok (.getfield 275, 3) := by decide +kernel
theorem dX10_rule_49 : decode cX10_rule 49 = .ok (.iconst 1, 1) := by decide +kernel
theorem dX10_rule_50 : decode cX10_rule 50 = .ok (.iadd, 1) := by decide +kernel
theorem dX10_rule_51 : decode cX10_rule 51 = .ok (.putfield 275, 3) := by decide +kernel
theorem dX10_rule_54 : decode cX10_rule 54 = .ok (.aload_n 0, 1) := by decide +kernel
theorem dX10_rule_55 : decode cX10_rule 55 = .ok (.getfield 275, 3) := by decide +kernel
theorem dX10_rule_58 : decode cX10_rule 58 = .ok (.iconst 1, 1) := by decide +kernel
theorem dX10_rule_59 : decode cX10_rule 59 = .ok (.isub, 1) := by decide +kernel
theorem dX10_rule_60 : decode cX10_rule 60 = .ok (.ireturn, 1) := by decide +kernel
def f_X10_rule (a0 : Nat) (σ : mm_S) : Option (Int32 × mm_S) :=
    if (σ.1 a0 2) = (6 : Int32) then
      some ((-1 : Int32), σ)
    else
      lt (su_i σ a0 11 (σ.1 a0 2)) fun σ14 =>
      gd (σ14.1 a0 11) 6 <|
      lt (su_i σ14 219 (σ14.1 a0 11).toNatClampNeg (0 : Int32)) fun σ17 =>
      bd (f_X10_readsAll a0 σ17) fun r21 σ20 =>
      if r21 = 0 then
        some (((-2 : Int32) - (σ20.1 a0 9)), σ20)
      else
        lt (su_i σ20 a0 2 ((σ20.1 a0 2) + (1 : Int32))) fun σ23 =>
        some (((σ23.1 a0 2) - (1 : Int32)), σ23)
theorem v_X10_rule {g : mm_G} (d : Nat) {a0 : Nat} {σ : mm_S} {res : Int32 × mm_S} (h_a0 : (mm_K a0).1 = 10) (h : f_X10_rule a0 σ = some res) : SM g (d + 12) yy_X10_rule [.ref a0] σ (.int res.1) res.2 := by
  refine s_of (by decide) (Nat.le_of_ble_eq_true rfl) (L := [(0, .ref a0)]) rfl ?_
  unfold f_X10_rule at h
  refine e_aload_n 0 dX10_rule_0 rfl rfl ?_
  refine s_geti dX10_rule_1 fl_RX10_275 h_a0 ?_
  refine e_bipush (v := (6 : Int32)) dX10_rule_4 (by decide) ?_
  refine e_icmp_ne 11 dX10_rule_6 (by decide) (fun c13 => ?_) (fun c13 => ?_)
  · rw [if_neg c13] at h
    refine e_aload_n 0 dX10_rule_11 rfl rfl ?_
    refine e_aload_n 0 dX10_rule_12 rfl rfl ?_
    refine s_geti dX10_rule_13 fl_RX10_275 h_a0 ?_
    refine s_puti dX10_rule_16 fl_RX10_166 h_a0 rfl rfl rfl ?_
    obtain ⟨σ14, q15, h⟩ := lt_some h
    refine s_nms q15 ?_
    refine e_aload_n 0 dX10_rule_19 rfl rfl ?_
    refine s_getr dX10_rule_20 fl_RX10_23 h_a0 (r_10_6 h_a0).1 ?_
    refine e_aload_n 0 dX10_rule_23 rfl rfl ?_
    refine s_geti dX10_rule_24 fl_RX10_166 h_a0 ?_
    refine e_iconst (v := (0 : Int32)) dX10_rule_27 (by decide) ?_
    obtain ⟨q16, h⟩ := gd_some h
    refine s_iast dX10_rule_28 (r_10_6 (w := 0) h_a0).2 q16 ?_
    obtain ⟨σ17, q18, h⟩ := lt_some h
    refine s_nms q18 ?_
    refine e_aload_n 0 dX10_rule_29 rfl rfl ?_
    obtain ⟨r21, σ20, q19, h⟩ := bd_some h
    refine s_callVi [] dX10_rule_30 ml_RX10_278 h_a0 ⟨_, rfl, by decide⟩ rfl (v_X10_readsAll (d + 0) h_a0 q19) (Nat.le_of_ble_eq_true rfl) ?_
    refine e_if_ne 44 dX10_rule_33 (by decide) (fun c22 => ?_) (fun c22 => ?_)
    · rw [if_neg c22] at h
      refine e_aload_n 0 dX10_rule_44 rfl rfl ?_
      refine e_dup dX10_rule_45 rfl ?_
      refine s_geti dX10_rule_46 fl_RX10_275 h_a0 ?_
      refine e_iconst (v := (1 : Int32)) dX10_rule_49 (by decide) ?_
      refine e_iadd dX10_rule_50 ?_
      refine s_puti dX10_rule_51 fl_RX10_275 h_a0 rfl rfl rfl ?_
      obtain ⟨σ23, q24, h⟩ := lt_some h
      refine s_nms q24 ?_
      refine e_aload_n 0 dX10_rule_54 rfl rfl ?_
      refine s_geti dX10_rule_55 fl_RX10_275 h_a0 ?_
      refine e_iconst (v := (1 : Int32)) dX10_rule_58 (by decide) ?_
      refine e_isub dX10_rule_59 ?_
      obtain rfl := Option.some.inj h
      exact s_ret rfl ⟨_, rfl, rfl⟩ dX10_rule_60
    · rw [if_pos c22] at h
      refine e_bipush (v := (-2 : Int32)) dX10_rule_36 (by decide) ?_
      refine e_aload_n 0 dX10_rule_38 rfl rfl ?_
      refine s_geti dX10_rule_39 fl_RX10_105 h_a0 ?_
      refine e_isub dX10_rule_42 ?_
      obtain rfl := Option.some.inj h
      exact s_ret rfl ⟨_, rfl, rfl⟩ dX10_rule_43
  · rw [if_pos c13] at h
    refine e_iconst (v := (-1 : Int32)) dX10_rule_9 (by decide) ?_
    obtain rfl := Option.some.inj h
    exact s_ret rfl ⟨_, rfl, rfl⟩ dX10_rule_10
abbrev yy_X10_begins : mm_Y := (yX10_begins, cX10_begins, 3, none)
theorem dX10_begins_0 : decode cX10_begins 0 = .ok (.aload_n 0, 1) := by decide +kernel
theorem dX10_begins_1 : decode cX10_begins 1 = .ok (.getfield 39, 3) := by decide +kernel
theorem dX10_begins_4 : decode cX10_begins 4 = .ok (.bipush 10, 2) := by decide +kernel
theorem dX10_begins_6 : decode cX10_begins 6 = .ok (.iconst 0, 1) := by decide +kernel
theorem dX10_begins_7 : decode cX10_begins 7 = .ok (.iastore, 1) := by decide +kernel
theorem dX10_begins_8 : decode cX10_begins 8 = .ok (.iconst 0, 1) := by decide +kernel
theorem dX10_begins_9 : decode cX10_begins 9 = .ok (.istore_n 1, 1) := by decide +kernel
theorem dX10_begins_10 : decode cX10_begins 10 = .ok (.iload_n 1, 1) := by decide +kernel
theorem dX10_begins_11 : decode cX10_begins 11 = .ok (.bipush 6, 2) := by decide +kernel
theorem dX10_begins_13 : decode cX10_begins 13 = .ok (.if_icmp .ge 75, 3) := by decide +kernel
theorem dX10_begins_16 : decode cX10_begins 16 = .ok (.bipush 11, 2) := by decide +kernel
theorem dX10_begins_18 : decode cX10_begins 18 = .ok (.iconst 5, 1) := by decide +kernel
theorem dX10_begins_19 : decode cX10_begins 19 = .ok (.iload_n 1, 1) := by decide +kernel
theorem dX10_begins_20 : decode cX10_begins 20 = .ok (.imul, 1) := by decide +kernel
theorem dX10_begins_21 : decode cX10_begins 21 = .ok (.iadd, 1) := by decide +kernel
theorem dX10_begins_22 : decode cX10_begins 22 = .ok (.istore_n 2, 1) := by decide +kernel
theorem dX10_begins_23 : decode cX10_begins 23 = .ok (.aload_n 0, 1) := by decide +kernel
theorem dX10_begins_24 : decode cX10_begins 24 = .ok (.getfield 39, 3) := by decide +kernel
theorem dX10_begins_27 : decode cX10_begins 27 = .ok (.iload_n 2, 1) := by decide +kernel
theorem dX10_begins_28 : decode cX10_begins 28 = .ok (.aload_n 0, 1) := by decide +kernel
theorem dX10_begins_29 : decode cX10_begins 29 = .ok (.getfield 39, 3) := by decide +kernel
theorem dX10_begins_32 : decode cX10_begins 32 = .ok (.bipush 41, 2) := by decide +kernel
theorem dX10_begins_34 : decode cX10_begins 34 = .ok (.iload_n 1, 1) := by decide +kernel
theorem dX10_begins_35 : decode cX10_begins 35 = .ok (.iadd, 1) := by decide +kernel
theorem dX10_begins_36 : decode cX10_begins 36 = .ok (.iaload, 1) := by decide +kernel
theorem dX10_begins_37 : decode cX10_begins 37 = .ok (.iastore, 1) := by decide +kernel
theorem dX10_begins_38 : decode cX10_begins 38 = .ok (.aload_n 0, 1) := by decide +kernel
theorem dX10_begins_39 : decode cX10_begins 39 = .ok (.getfield 39, 3) := by decide +kernel
theorem dX10_begins_42 : decode cX10_begins 42 = .ok (.iload_n 2, 1) := by decide +kernel
theorem dX10_begins_43 : decode cX10_begins 43 = .ok (.iconst 1, 1) := by decide +kernel
theorem dX10_begins_44 : decode cX10_begins 44 = .ok (.iadd, 1) := by decide +kernel
theorem dX10_begins_45 : decode cX10_begins 45 = .ok (.aload_n 0, 1) := by decide +kernel
theorem dX10_begins_46 : decode cX10_begins 46 = .ok (.getfield 39, 3) := by decide +kernel
theorem dX10_begins_49 : decode cX10_begins 49 = .ok (.bipush 47, 2) := by decide +kernel
theorem dX10_begins_51 : decode cX10_begins 51 = .ok (.iload_n 1, 1) := by decide +kernel
theorem dX10_begins_52 : decode cX10_begins 52 = .ok (.iadd, 1) := by decide +kernel
theorem dX10_begins_53 : decode cX10_begins 53 = .ok (.iaload, 1) := by decide +kernel
theorem dX10_begins_54 : decode cX10_begins 54 = .ok (.iastore, 1) := by decide +kernel
theorem dX10_begins_55 : decode cX10_begins 55 = .ok (.aload_n 0, 1) := by decide +kernel
theorem dX10_begins_56 : decode cX10_begins 56 = .ok (.getfield 39, 3) := by decide +kernel
theorem dX10_begins_59 : decode cX10_begins 59 = .ok (.iload_n 2, 1) := by decide +kernel
theorem dX10_begins_60 : decode cX10_begins 60 = .ok (.iconst 2, 1) := by decide +kernel
theorem dX10_begins_61 : decode cX10_begins 61 = .ok (.iadd, 1) := by decide +kernel
theorem dX10_begins_62 : decode cX10_begins 62 = .ok (.iconst 0, 1) := by decide +kernel
theorem dX10_begins_63 : decode cX10_begins 63 = .ok (.iastore, 1) := by decide +kernel
theorem dX10_begins_64 : decode cX10_begins 64 = .ok (.aload_n 0, 1) := by decide +kernel
theorem dX10_begins_65 : decode cX10_begins 65 = .ok (.getfield 39, 3) := by decide +kernel
theorem dX10_begins_68 : decode cX10_begins 68 = .ok (.iload_n 2, 1) := by decide +kernel
theorem dX10_begins_69 : decode cX10_begins 69 = .ok (.iconst 3, 1) := by decide +kernel
theorem dX10_begins_70 : decode cX10_begins 70 = .ok (.iadd, 1) := by decide +kernel
theorem dX10_begins_71 : decode cX10_begins 71 = .ok (.iconst (-1), 1) := by decide +kernel
theorem dX10_begins_72 : decode cX10_begins 72 = .ok (.iastore, 1) := by decide +kernel
theorem dX10_begins_73 : decode cX10_begins 73 = .ok (.aload_n 0, 1) := by decide +kernel
theorem dX10_begins_74 : decode cX10_begins 74 = .ok (.getfield 39, 3) := by decide +kernel
theorem dX10_begins_77 : decode cX10_begins 77 = .ok (.iload_n 2, 1) := by decide +kernel
theorem dX10_begins_78 : decode cX10_begins 78 = .ok (.iconst 4, 1) := by decide +kernel
theorem dX10_begins_79 : decode cX10_begins 79 = .ok (.iadd, 1) := by decide +kernel
theorem dX10_begins_80 : decode cX10_begins 80 = .ok (.iconst 0, 1) := by decide +kernel
theorem dX10_begins_81 : decode cX10_begins 81 = .ok (.iastore, 1) := by decide +kernel
theorem dX10_begins_82 : decode cX10_begins 82 = .ok (.iinc 1 1, 3) := by decide +kernel
theorem dX10_begins_85 : decode cX10_begins 85 = .ok (.goto (-75), 3) := by decide +kernel
theorem dX10_begins_88 : decode cX10_begins 88 = .ok (.return_, 1) := by decide +kernel
def f_X10_begins_10 (a0 : Nat) (i1 : Int32) (σ : mm_S) : Option (mm_S) :=
  lp lpN (fun (k10 : (Int32) → mm_S → Option (mm_S)) (v : Int32) (σ : mm_S) =>
    if (6 : Int32) ≤ v then
      some σ
    else
      lt (((11 : Int32) + ((5 : Int32) * v))) fun x2 =>
      gd ((41 : Int32) + v) 121 <|
      gd x2 121 <|
      lt (su_i σ 224 x2.toNatClampNeg (σ.1 224 ((41 : Int32) + v).toNatClampNeg)) fun σ6 =>
      gd ((47 : Int32) + v) 121 <|
      gd (x2 + (1 : Int32)) 121 <|
      lt (su_i σ6 224 (x2 + (1 : Int32)).toNatClampNeg (σ6.1 224 ((47 : Int32) + v).toNatClampNeg)) fun σ10 =>
      gd (x2 + (2 : Int32)) 121 <|
      lt (su_i σ10 224 (x2 + (2 : Int32)).toNatClampNeg (0 : Int32)) fun σ13 =>
      gd (x2 + (3 : Int32)) 121 <|
      lt (su_i σ13 224 (x2 + (3 : Int32)).toNatClampNeg (-1 : Int32)) fun σ16 =>
      gd (x2 + (4 : Int32)) 121 <|
      lt (su_i σ16 224 (x2 + (4 : Int32)).toNatClampNeg (0 : Int32)) fun σ19 =>
      lt (v + Int32.ofInt (1)) fun x21 =>
      k10 x21 σ19) i1 σ
theorem v_X10_begins_10 {g : mm_G} (d : Nat) {a0 : Nat} {i1 : Int32} {σ : mm_S} {res : mm_S}  (h_a0 : (mm_K a0).1 = 10) (h : f_X10_begins_10 a0 i1 σ = some res) : SV g (d + 0) yy_X10_begins 10 [(0, .ref a0), (1, .int i1)] [] σ .null res := by
  unfold f_X10_begins_10 at h
  refine lp_ind (P := fun v σ => SV g (d + 0) yy_X10_begins 10 [(0, .ref a0), (1, .int v)] [] σ .null res) (fun k10 H10 v σ h => ?_) _ i1 σ h
  refine e_iload_n 1 dX10_begins_10 rfl rfl ?_
  refine e_bipush (v := (6 : Int32)) dX10_begins_11 (by decide) ?_
  refine e_icmp_ge 88 dX10_begins_13 (by decide) (fun c1 => ?_) (fun c1 => ?_)
  · rw [if_pos c1] at h
    obtain rfl := Option.some.inj h
    exact s_ret rfl rfl dX10_begins_88
  · rw [if_neg c1] at h
    refine e_bipush (v := (11 : Int32)) dX10_begins_16 (by decide) ?_
    refine e_iconst (v := (5 : Int32)) dX10_begins_18 (by decide) ?_
    refine e_iload_n 1 dX10_begins_19 rfl rfl ?_
    refine e_imul dX10_begins_20 ?_
    refine e_iadd dX10_begins_21 ?_
    obtain ⟨x2, q3, h⟩ := lt_some h
    refine s_nmi q3 ?_
    refine e_istore_n (L' := [(0, .ref a0), (1, .int v), (2, .int x2)]) dX10_begins_22 rfl (by decide) rfl ?_
    refine e_aload_n 0 dX10_begins_23 rfl rfl ?_
    refine s_getr dX10_begins_24 fl_RX10_39 h_a0 (r_10_20 h_a0).1 ?_
    refine e_iload_n 2 dX10_begins_27 rfl rfl ?_
    refine e_aload_n 0 dX10_begins_28 rfl rfl ?_
    refine s_getr dX10_begins_29 fl_RX10_39 h_a0 (r_10_20 h_a0).1 ?_
    refine e_bipush (v := (41 : Int32)) dX10_begins_32 (by decide) ?_
    refine e_iload_n 1 dX10_begins_34 rfl rfl ?_
    refine e_iadd dX10_begins_35 ?_
    obtain ⟨q4, h⟩ := gd_some h
    refine s_iald dX10_begins_36 (r_10_20 (w := 0) h_a0).2 q4 ?_
    obtain ⟨q5, h⟩ := gd_some h
    refine s_iast dX10_begins_37 (r_10_20 (w := 0) h_a0).2 q5 ?_
    obtain ⟨σ6, q7, h⟩ := lt_some h
    refine s_nms q7 ?_
    refine e_aload_n 0 dX10_begins_38 rfl rfl ?_
    refine s_getr dX10_begins_39 fl_RX10_39 h_a0 (r_10_20 h_a0).1 ?_
    refine e_iload_n 2 dX10_begins_42 rfl rfl ?_
    refine e_iconst (v := (1 : Int32)) dX10_begins_43 (by decide) ?_
    refine e_iadd dX10_begins_44 ?_
    refine e_aload_n 0 dX10_begins_45 rfl rfl ?_
    refine s_getr dX10_begins_46 fl_RX10_39 h_a0 (r_10_20 h_a0).1 ?_
    refine e_bipush (v := (47 : Int32)) dX10_begins_49 (by decide) ?_
    refine e_iload_n 1 dX10_begins_51 rfl rfl ?_
    refine e_iadd dX10_begins_52 ?_
    obtain ⟨q8, h⟩ := gd_some h
    refine s_iald dX10_begins_53 (r_10_20 (w := 0) h_a0).2 q8 ?_
    obtain ⟨q9, h⟩ := gd_some h
    refine s_iast dX10_begins_54 (r_10_20 (w := 0) h_a0).2 q9 ?_
    obtain ⟨σ10, q11, h⟩ := lt_some h
    refine s_nms q11 ?_
    refine e_aload_n 0 dX10_begins_55 rfl rfl ?_
    refine s_getr dX10_begins_56 fl_RX10_39 h_a0 (r_10_20 h_a0).1 ?_
    refine e_iload_n 2 dX10_begins_59 rfl rfl ?_
    refine e_iconst (v := (2 : Int32)) dX10_begins_60 (by decide) ?_
    refine e_iadd dX10_begins_61 ?_
    refine e_iconst (v := (0 : Int32)) dX10_begins_62 (by decide) ?_
    obtain ⟨q12, h⟩ := gd_some h
    refine s_iast dX10_begins_63 (r_10_20 (w := 0) h_a0).2 q12 ?_
    obtain ⟨σ13, q14, h⟩ := lt_some h
    refine s_nms q14 ?_
    refine e_aload_n 0 dX10_begins_64 rfl rfl ?_
    refine s_getr dX10_begins_65 fl_RX10_39 h_a0 (r_10_20 h_a0).1 ?_
    refine e_iload_n 2 dX10_begins_68 rfl rfl ?_
    refine e_iconst (v := (3 : Int32)) dX10_begins_69 (by decide) ?_
    refine e_iadd dX10_begins_70 ?_
    refine e_iconst (v := (-1 : Int32)) dX10_begins_71 (by decide) ?_
    obtain ⟨q15, h⟩ := gd_some h
    refine s_iast dX10_begins_72 (r_10_20 (w := 0) h_a0).2 q15 ?_
    obtain ⟨σ16, q17, h⟩ := lt_some h
    refine s_nms q17 ?_
    refine e_aload_n 0 dX10_begins_73 rfl rfl ?_
    refine s_getr dX10_begins_74 fl_RX10_39 h_a0 (r_10_20 h_a0).1 ?_
    refine e_iload_n 2 dX10_begins_77 rfl rfl ?_
    refine e_iconst (v := (4 : Int32)) dX10_begins_78 (by decide) ?_
    refine e_iadd dX10_begins_79 ?_
    refine e_iconst (v := (0 : Int32)) dX10_begins_80 (by decide) ?_
    obtain ⟨q18, h⟩ := gd_some h
    refine s_iast dX10_begins_81 (r_10_20 (w := 0) h_a0).2 q18 ?_
    obtain ⟨σ19, q20, h⟩ := lt_some h
    refine s_nms q20 ?_
    obtain ⟨x21, q22, h⟩ := lt_some h
    refine e_iinc (v := x21) (L' := [(0, .ref a0), (1, .int x21), (2, .int x2)]) 1 dX10_begins_82 rfl q22.symm (by decide) rfl ?_
    refine e_goto 10 dX10_begins_85 (by decide) ?_
    refine s_pick (L' := [(0, .ref a0), (1, .int x21)]) [0, 1] rfl ?_
    exact H10 x21 σ19 h
def f_X10_begins (a0 : Nat) (σ : mm_S) : Option (mm_S) :=
    gd (10 : Int32) 121 <|
    lt (su_i σ 224 (10 : Int32).toNatClampNeg (0 : Int32)) fun σ27 =>
    f_X10_begins_10 a0 (0 : Int32) σ27
theorem v_X10_begins {g : mm_G} (d : Nat) {a0 : Nat} {σ : mm_S} {res : mm_S} (h_a0 : (mm_K a0).1 = 10) (h : f_X10_begins a0 σ = some res) : SM g (d + 0) yy_X10_begins [.ref a0] σ .null res := by
  refine s_of (by decide) (Nat.le_of_ble_eq_true rfl) (L := [(0, .ref a0)]) rfl ?_
  unfold f_X10_begins at h
  refine e_aload_n 0 dX10_begins_0 rfl rfl ?_
  refine s_getr dX10_begins_1 fl_RX10_39 h_a0 (r_10_20 h_a0).1 ?_
  refine e_bipush (v := (10 : Int32)) dX10_begins_4 (by decide) ?_
  refine e_iconst (v := (0 : Int32)) dX10_begins_6 (by decide) ?_
  obtain ⟨q26, h⟩ := gd_some h
  refine s_iast dX10_begins_7 (r_10_20 (w := 0) h_a0).2 q26 ?_
  obtain ⟨σ27, q28, h⟩ := lt_some h
  refine s_nms q28 ?_
  refine e_iconst (v := (0 : Int32)) dX10_begins_8 (by decide) ?_
  refine e_istore_n (L' := [(0, .ref a0), (1, .int (0 : Int32))]) dX10_begins_9 rfl (by decide) rfl ?_
  refine s_pick (L' := [(0, .ref a0), (1, .int (0 : Int32))]) [0, 1] rfl ?_
  exact v_X10_begins_10 d h_a0 h
