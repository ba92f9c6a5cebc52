abbrev yy_X10_passWord : mm_Y := (yX10_passWord, cX10_passWord, 1, none)
theorem dX10_passWord_0 : decode cX10_passWord 0 = .ok (.aload_n 0, 1) := by decide +kernel
theorem dX10_passWord_1 : decode cX10_passWord 1 = .ok (.aload_n 0, 1) := by decide +kernel
theorem dX10_passWord_2 : decode cX10_passWord 2 = .ok (.getfield 108, 3) := by decide +kernel
theorem dX10_passWord_5 : decode cX10_passWord 5 = .ok (.invokevirtual 115, 3) := by decide +kernel
theorem dX10_passWord_8 : decode cX10_passWord 8 = .ok (.ifCond .eq 16, 3) := by decide +kernel
theorem dX10_passWord_11 : decode cX10_passWord 11 = .ok (.aload_n 0, 1) := by decide +kernel
theorem dX10_passWord_12 : decode cX10_passWord 12 = .ok (.dup, 1) := by decide +kernel
theorem dX10_passWord_13 : decode cX10_passWord 13 = .ok (.getfield 108, 3) := by decide +kernel
theorem dX10_passWord_16 : decode cX10_passWord 16 = .ok (.iconst 1, 1) := by decide +kernel
theorem dX10_passWord_17 : decode cX10_passWord 17 = .ok (.iadd, 1) := by decide +kernel
theorem dX10_passWord_18 : decode cX10_passWord 18 = .ok (.putfield 108, 3) := by decide +kernel
theorem dX10_passWord_21 : decode cX10_passWord 21 = .ok (.goto (-21), 3) := by decide +kernel
theorem dX10_passWord_24 : decode cX10_passWord 24 = .ok (.return_, 1) := by decide +kernel
def f_X10_passWord_0 (a0 : Nat) (σ : mm_S) : Option (mm_S) :=
  lp lpN (fun (k0 : (Unit) → mm_S → Option (mm_S)) (v : Unit) (σ : mm_S) =>
    bd (f_X10_isLetter a0 (σ.1 a0 8) σ) fun r3 σ2 =>
    if r3 = 0 then
      some σ2
    else
      lt (su_i σ2 a0 8 ((σ2.1 a0 8) + (1 : Int32))) fun σ5 =>
      k0 () σ5) () σ
theorem v_X10_passWord_0 {g : mm_G} (d : Nat) {a0 : Nat} {σ : mm_S} {res : mm_S}  (h_a0 : (mm_K a0).1 = 10) (h : f_X10_passWord_0 a0 σ = some res) : SV g (d + 1) yy_X10_passWord 0 [(0, .ref a0)] [] σ .null res := by
  unfold f_X10_passWord_0 at h
  refine lp_ind (P := fun v σ => SV g (d + 1) yy_X10_passWord 0 [(0, .ref a0)] [] σ .null res) (fun k0 H0 v σ h => ?_) _ () σ h
  refine e_aload_n 0 dX10_passWord_0 rfl rfl ?_
  refine e_aload_n 0 dX10_passWord_1 rfl rfl ?_
  refine s_geti dX10_passWord_2 fl_RX10_108 h_a0 ?_
  obtain ⟨r3, σ2, q1, h⟩ := bd_some h
  refine s_callVi [.int (σ.1 a0 8)] dX10_passWord_5 ml_RX10_115 h_a0 ⟨_, rfl, by decide⟩ rfl (v_X10_isLetter (d + 0) h_a0 q1) (Nat.le_of_ble_eq_true rfl) ?_
  refine e_if_eq 24 dX10_passWord_8 (by decide) (fun c4 => ?_) (fun c4 => ?_)
  · rw [if_pos c4] at h
    obtain rfl := Option.some.inj h
    exact s_ret rfl rfl dX10_passWord_24
  · rw [if_neg c4] at h
    refine e_aload_n 0 dX10_passWord_11 rfl rfl ?_
    refine e_dup dX10_passWord_12 rfl ?_
    refine s_geti dX10_passWord_13 fl_RX10_108 h_a0 ?_
    refine e_iconst (v := (1 : Int32)) dX10_passWord_16 (by decide) ?_
    refine e_iadd dX10_passWord_17 ?_
    refine s_puti dX10_passWord_18 fl_RX10_108 h_a0 rfl rfl rfl ?_
    obtain ⟨σ5, q6, h⟩ := lt_some h
    refine s_nms q6 ?_
    refine e_goto 0 dX10_passWord_21 (by decide) ?_
    refine s_pick (L' := [(0, .ref a0)]) [0] rfl ?_
    exact H0 () σ5 h
def f_X10_passWord (a0 : Nat) (σ : mm_S) : Option (mm_S) := f_X10_passWord_0 a0 σ
theorem v_X10_passWord {g : mm_G} (d : Nat) {a0 : Nat} {σ : mm_S} {res : mm_S} (h_a0 : (mm_K a0).1 = 10) (h : f_X10_passWord a0 σ = some res) : SM g (d + 1) yy_X10_passWord [.ref a0] σ .null res := by
  refine s_of (by decide) (Nat.le_of_ble_eq_true rfl) (L := [(0, .ref a0)]) rfl ?_
  refine s_pick (L' := [(0, .ref a0)]) [0] rfl ?_
  exact v_X10_passWord_0 d h_a0 h
abbrev yy_X10_takesWord : mm_Y := (yX10_takesWord, cX10_takesWord, 3, (some .boolean))
theorem dX10_takesWord_0 : decode cX10_takesWord 0 = .ok (.aload_n 0, 1) := by decide +kernel
theorem dX10_takesWord_1 : decode cX10_takesWord 1 = .ok (.lload_n 1, 1) := by decide +kernel
theorem dX10_takesWord_2 : decode cX10_takesWord 2 = .ok (.invokevirtual 119, 3) := by decide +kernel
theorem dX10_takesWord_5 : decode cX10_takesWord 5 = .ok (.ifCond .ne 5, 3) := by decide +kernel
theorem dX10_takesWord_8 : decode cX10_takesWord 8 = .ok (.iconst 0, 1) := by decide +kernel
theorem dX10_takesWord_9 : decode cX10_takesWord 9 = .ok (.ireturn, 1) := by decide +kernel
theorem dX10_takesWord_10 : decode cX10_takesWord 10 = .ok (.aload_n 0, 1) := by decide +kernel
theorem dX10_takesWord_11 : decode cX10_takesWord 11 = .ok (.invokevirtual 123, 3) := by decide +kernel
theorem dX10_takesWord_14 : decode cX10_takesWord 14 = .ok (.iconst 1, 1) := by decide +kernel
theorem dX10_takesWord_15 : decode cX10_takesWord 15 = .ok (.ireturn, 1) := by decide +kernel
def f_X10_takesWord (a0 : Nat) (j1 : Int64) (σ : mm_S) : Option (Int32 × mm_S) :=
    bd (f_X10_isWord a0 j1 σ) fun r9 σ8 =>
    if r9 = 0 then
      some ((0 : Int32), σ8)
    else
      bv (f_X10_passWord a0 σ8) fun σ12 =>
      some ((1 : Int32), σ12)
theorem v_X10_takesWord {g : mm_G} (d : Nat) {a0 : Nat} {j1 : Int64} {σ : mm_S} {res : Int32 × mm_S} (h_a0 : (mm_K a0).1 = 10) (h : f_X10_takesWord a0 j1 σ = some res) : SM g (d + 2) yy_X10_takesWord [.ref a0, .long j1] σ (.int res.1) res.2 := by
  refine s_of (by decide) (Nat.le_of_ble_eq_true rfl) (L := [(0, .ref a0), (1, .long j1)]) rfl ?_
  unfold f_X10_takesWord at h
  refine e_aload_n 0 dX10_takesWord_0 rfl rfl ?_
  refine e_lload_n 1 dX10_takesWord_1 rfl rfl ?_
  obtain ⟨r9, σ8, q7, h⟩ := bd_some h
  refine s_callVi [.long j1] dX10_takesWord_2 ml_RX10_119 h_a0 ⟨_, rfl, by decide⟩ rfl (v_X10_isWord (d + 0) h_a0 q7) (Nat.le_of_ble_eq_true rfl) ?_
  refine e_if_ne 10 dX10_takesWord_5 (by decide) (fun c10 => ?_) (fun c10 => ?_)
  · rw [if_neg c10] at h
    refine e_aload_n 0 dX10_takesWord_10 rfl rfl ?_
    obtain ⟨σ12, q11, h⟩ := bv_some h
    refine s_callVv [] dX10_takesWord_11 ml_RX10_123 h_a0 rfl rfl (v_X10_passWord (d + 0) h_a0 q11) (Nat.le_of_ble_eq_true rfl) ?_
    refine e_iconst (v := (1 : Int32)) dX10_takesWord_14 (by decide) ?_
    obtain rfl := Option.some.inj h
    exact s_ret rfl ⟨_, rfl, nb1 (Or.inr rfl)⟩ dX10_takesWord_15
  · rw [if_pos c10] at h
    refine e_iconst (v := (0 : Int32)) dX10_takesWord_8 (by decide) ?_
    obtain rfl := Option.some.inj h
    exact s_ret rfl ⟨_, rfl, nb1 (Or.inl rfl)⟩ dX10_takesWord_9
abbrev yy_X10_numberHere : mm_Y := (yX10_numberHere, cX10_numberHere, 5, (some .boolean))
theorem dX10_numberHere_0 : decode cX10_numberHere 0 = .ok (.aload_n 0, 1) := by decide +kernel
theorem dX10_numberHere_1 : decode cX10_numberHere 1 = .ok (.invokevirtual 111, 3) := by decide +kernel
theorem dX10_numberHere_4 : decode cX10_numberHere 4 = .ok (.pop, 1) := by decide +kernel
theorem dX10_numberHere_5 : decode cX10_numberHere 5 = .ok (.aload_n 0, 1) := by decide +kernel
theorem dX10_numberHere_6 : decode cX10_numberHere 6 = .ok (.aload_n 0, 1) := by decide +kernel
theorem dX10_numberHere_7 : decode cX10_numberHere 7 = .ok (.getfield 108, 3) := by decide +kernel
theorem dX10_numberHere_10 : decode cX10_numberHere 10 = .ok (.invokevirtual 126, 3) := by decide +kernel
theorem dX10_numberHere_13 : decode cX10_numberHere 13 = .ok (.ifCond .ne 13, 3) := by decide +kernel
theorem dX10_numberHere_16 : decode cX10_numberHere 16 = .ok (.aload_n 0, 1) := by decide +kernel
theorem dX10_numberHere_17 : decode cX10_numberHere 17 = .ok (.iconst 0, 1) := by decide +kernel
theorem dX10_numberHere_18 : decode cX10_numberHere 18 = .ok (.aload_n 0, 1) := by decide +kernel
theorem dX10_numberHere_19 : decode cX10_numberHere 19 = .ok (.getfield 108, 3) := by decide +kernel
theorem dX10_numberHere_22 : decode cX10_numberHere 22 = .ok (.invokevirtual 129, 3) := by decide +kernel
theorem dX10_numberHere_25 : decode cX10_numberHere 25 = .ok (.ireturn, 1) := by decide +kernel
theorem dX10_numberHere_26 : decode cX10_numberHere 26 = .ok (.aload_n 0, 1) := by decide +kernel
theorem dX10_numberHere_27 : decode cX10_numberHere 27 = .ok (.getfield 108, 3) := by decide +kernel
theorem dX10_numberHere_30 : decode cX10_numberHere 30 = .ok (.istore_n 3, 1) := by decide +kernel
theorem dX10_numberHere_31 : decode cX10_numberHere 31 = .ok (.iconst 0, 1) := by decide +kernel
theorem dX10_numberHere_32 : decode cX10_numberHere 32 = .ok (.istore 4, 2) := by decide +kernel
theorem dX10_numberHere_34 : decode cX10_numberHere 34 = .ok (.aload_n 0, 1) := by decide +kernel
theorem dX10_numberHere_35 : decode cX10_numberHere 35 = .ok (.aload_n 0, 1) := by decide +kernel
theorem dX10_numberHere_36 : decode cX10_numberHere 36 = .ok (.getfield 108, 3) := by decide +kernel
theorem dX10_numberHere_39 : decode cX10_numberHere 39 = .ok (.invokevirtual 126, 3) := by decide +kernel
theorem dX10_numberHere_42 : decode cX10_numberHere 42 = .ok (.ifCond .eq 46, 3) := by decide +kernel
theorem dX10_numberHere_45 : decode cX10_numberHere 45 = .ok (.aload_n 0, 1) := by decide +kernel
theorem dX10_numberHere_46 : decode cX10_numberHere 46 = .ok (.getfield 108, 3) := by decide +kernel
theorem dX10_numberHere_49 : decode cX10_numberHere 49 = .ok (.iload_n 3, 1) := by decide +kernel
theorem dX10_numberHere_50 : decode cX10_numberHere 50 = .ok (.isub, 1) := by decide +kernel
theorem dX10_numberHere_51 : decode cX10_numberHere 51 = .ok (.iconst 5, 1) := by decide +kernel
theorem dX10_numberHere_52 : decode cX10_numberHere 52 = .ok (.if_icmp .ge 23, 3) := by decide +kernel
theorem dX10_numberHere_55 : decode cX10_numberHere 55 = .ok (.bipush 10, 2) := by decide +kernel
theorem dX10_numberHere_57 : decode cX10_numberHere 57 = .ok (.iload 4, 2) := by decide +kernel
theorem dX10_numberHere_59 : decode cX10_numberHere 59 = .ok (.imul, 1) := by decide +kernel
theorem dX10_numberHere_60 : decode cX10_numberHere 60 = .ok (.aload_n 0, 1) := by decide +kernel
theorem dX10_numberHere_61 : decode cX10_numberHere 61 = .ok (.getfield 7, 3) := by decide +kernel
theorem dX10_numberHere_64 : decode cX10_numberHere 64 = .ok (.aload_n 0, 1) := by decide +kernel
theorem dX10_numberHere_65 : decode cX10_numberHere 65 = .ok (.getfield 108, 3) := by decide +kernel
theorem dX10_numberHere_68 : decode cX10_numberHere 68 = .ok (.baload, 1) := by decide +kernel
theorem dX10_numberHere_69 : decode cX10_numberHere 69 = .ok (.iadd, 1) := by decide +kernel
theorem dX10_numberHere_70 : decode cX10_numberHere 70 = .ok (.bipush 48, 2) := by decide +kernel
theorem dX10_numberHere_72 : decode cX10_numberHere 72 = .ok (.isub, 1) := by decide +kernel
theorem dX10_numberHere_73 : decode cX10_numberHere 73 = .ok (.istore 4, 2) := by decide +kernel
theorem dX10_numberHere_75 : decode cX10_numberHere 75 = .ok (.aload_n 0, 1) := by decide +kernel
theorem dX10_numberHere_76 : decode cX10_numberHere 76 = .ok (.dup, 1) := by decide +kernel
theorem dX10_numberHere_77 : decode cX10_numberHere 77 = .ok (.getfield 108, 3) := by decide +kernel
theorem dX10_numberHere_80 : decode cX10_numberHere 80 = .ok (.iconst 1, 1) := by decide +kernel
theorem dX10_numberHere_81 : decode cX10_numberHere 81 = .ok (.iadd, 1) := by decide +kernel
theorem dX10_numberHere_82 : decode cX10_numberHere 82 = .ok (.putfield 108, 3) := by decide +kernel
theorem dX10_numberHere_85 : decode cX10_numberHere 85 = .ok (.goto (-51), 3) := by decide +kernel
theorem dX10_numberHere_88 : decode cX10_numberHere 88 = .ok (.aload_n 0, 1) := by decide +kernel
theorem dX10_numberHere_89 : decode cX10_numberHere 89 = .ok (.iload 4, 2) := by decide +kernel
theorem dX10_numberHere_91 : decode cX10_numberHere 91 = .ok (.putfield 133, 3) := by decide +kernel
theorem dX10_numberHere_94 : decode cX10_numberHere 94 = .ok (.aload_n 0, 1) := by decide +kernel
theorem dX10_numberHere_95 : decode cX10_numberHere 95 = .ok (.getfield 108, 3) := by decide +kernel
theorem dX10_numberHere_98 : decode cX10_numberHere 98 = .ok (.iload_n 3, 1) := by decide +kernel
theorem dX10_numberHere_99 : decode cX10_numberHere 99 = .ok (.isub, 1) := by decide +kernel
theorem dX10_numberHere_100 : decode cX10_numberHere 100 = .ok (.iconst 5, 1) := by decide +kernel
theorem dX10_numberHere_101 : decode cX10_numberHere 101 = .ok (.if_icmp .gt 16, 3) := by decide +kernel
theorem dX10_numberHere_104 : decode cX10_numberHere 104 = .ok (.iload 4, 2) := by decide +kernel
theorem dX10_numberHere_106 : decode cX10_numberHere 106 = .ok (.i2l, 1) := by decide +kernel
theorem dX10_numberHere_107 : decode cX10_numberHere 107 = .ok (.iload_n 1, 1) := by decide +kernel
theorem dX10_numberHere_108 : decode cX10_numberHere 108 = .ok (.i2l, 1) := by decide +kernel
theorem dX10_numberHere_109 : decode cX10_numberHere 109 = .ok (.iload_n 2, 1) := by decide +kernel
theorem dX10_numberHere_110 : decode cX10_numberHere 110 = .ok (.i2l, 1) := by decide +kernel
theorem dX10_numberHere_111 : decode cX10_numberHere 111 = .ok (.invokestatic 136, 3) := by decide +kernel
theorem dX10_numberHere_114 : decode cX10_numberHere 114 = .ok (.ifCond .ne 12, 3) := by decide +kernel
theorem dX10_numberHere_117 : decode cX10_numberHere 117 = .ok (.aload_n 0, 1) := by decide +kernel
theorem dX10_numberHere_118 : decode cX10_numberHere 118 = .ok (.iconst 1, 1) := by decide +kernel
theorem dX10_numberHere_119 : decode cX10_numberHere 119 = .ok (.iload_n 3, 1) := by decide +kernel
theorem dX10_numberHere_120 : decode cX10_numberHere 120 = .ok (.invokevirtual 129, 3) := by decide +kernel
theorem dX10_numberHere_123 : decode cX10_numberHere 123 = .ok (.ifCond .eq 7, 3) := by decide +kernel
theorem dX10_numberHere_126 : decode cX10_numberHere 126 = .ok (.iconst 1, 1) := by decide +kernel
theorem dX10_numberHere_127 : decode cX10_numberHere 127 = .ok (.goto 4, 3) := by decide +kernel
theorem dX10_numberHere_130 : decode cX10_numberHere 130 = .ok (.iconst 0, 1) := by decide +kernel
theorem dX10_numberHere_131 : decode cX10_numberHere 131 = .ok (.ireturn, 1) := by decide +kernel
def f_X10_numberHere_117 (a0 : Nat) (i3 : Int32) (σ : mm_S) : Option (Int32 × mm_S) :=
    bd (f_X10_fails a0 (1 : Int32) i3 σ) fun r3 σ2 =>
    if r3 = 0 then
      some ((0 : Int32), σ2)
    else
      some ((1 : Int32), σ2)
theorem v_X10_numberHere_117 {g : mm_G} (d : Nat) {a0 : Nat} {i3 : Int32} {σ : mm_S} {res : Int32 × mm_S}  (h_a0 : (mm_K a0).1 = 10) (h : f_X10_numberHere_117 a0 i3 σ = some res) : SV g (d + 1) yy_X10_numberHere 117 [(0, .ref a0), (3, .int i3)] [] σ (.int res.1) res.2 := by
  unfold f_X10_numberHere_117 at h
  refine e_aload_n 0 dX10_numberHere_117 rfl rfl ?_
  refine e_iconst (v := (1 : Int32)) dX10_numberHere_118 (by decide) ?_
  refine e_iload_n 1 dX10_numberHere_119 rfl rfl ?_
  obtain ⟨r3, σ2, q1, h⟩ := bd_some h
  refine s_callVi [.int (1 : Int32), .int i3] dX10_numberHere_120 ml_RX10_129 h_a0 ⟨_, rfl, by decide⟩ rfl (v_X10_fails (d + 0) h_a0 q1) (Nat.le_of_ble_eq_true rfl) ?_
  refine e_if_eq 130 dX10_numberHere_123 (by decide) (fun c4 => ?_) (fun c4 => ?_)
  · rw [if_pos c4] at h
    refine e_iconst (v := (0 : Int32)) dX10_numberHere_130 (by decide) ?_
    obtain rfl := Option.some.inj h
    exact s_ret rfl ⟨_, rfl, nb1 (Or.inl rfl)⟩ dX10_numberHere_131
  · rw [if_neg c4] at h
    refine e_iconst (v := (1 : Int32)) dX10_numberHere_126 (by decide) ?_
    refine e_goto 131 dX10_numberHere_127 (by decide) ?_
    obtain rfl := Option.some.inj h
    exact s_ret rfl ⟨_, rfl, nb1 (Or.inr rfl)⟩ dX10_numberHere_131
def f_X10_numberHere_75 (k34 : (Int32) → mm_S → Option (Int32 × mm_S)) (a0 : Nat) (i1 : Int32) (i2 : Int32) (i3 : Int32) (i4 : Int32) (σ : mm_S) : Option (Int32 × mm_S) :=
    lt (su_i σ a0 8 ((σ.1 a0 8) + (1 : Int32))) fun σ5 =>
    k34 i4 σ5
theorem v_X10_numberHere_75 {g : mm_G} (d : Nat) {k34 : (Int32) → mm_S → Option (Int32 × mm_S)} {a0 : Nat} {i1 : Int32} {i2 : Int32} {i3 : Int32} {i4 : Int32} {σ : mm_S} {res : Int32 × mm_S} (H34 : ∀ v σ, k34 v σ = some res → SV g (d + 1) yy_X10_numberHere 34 [(0, .ref a0), (1, .int i1), (2, .int i2), (3, .int i3), (4, .int v)] [] σ (.int res.1) res.2) (h_a0 : (mm_K a0).1 = 10) (h : f_X10_numberHere_75 k34 a0 i1 i2 i3 i4 σ = some res) : SV g (d + 1) yy_X10_numberHere 75 [(0, .ref a0), (1, .int i1), (2, .int i2), (3, .int i3), (4, .int i4)] [] σ (.int res.1) res.2 := by
  unfold f_X10_numberHere_75 at h
  refine e_aload_n 0 dX10_numberHere_75 rfl rfl ?_
  refine e_dup dX10_numberHere_76 rfl ?_
  refine s_geti dX10_numberHere_77 fl_RX10_108 h_a0 ?_
  refine e_iconst (v := (1 : Int32)) dX10_numberHere_80 (by decide) ?_
  refine e_iadd dX10_numberHere_81 ?_
  refine s_puti dX10_numberHere_82 fl_RX10_108 h_a0 rfl rfl rfl ?_
  obtain ⟨σ5, q6, h⟩ := lt_some h
  refine s_nms q6 ?_
  refine e_goto 34 dX10_numberHere_85 (by decide) ?_
  refine s_pick (L' := [(0, .ref a0), (1, .int i1), (2, .int i2), (3, .int i3), (4, .int i4)]) [0, 1, 2, 3, 4] rfl ?_
  exact H34 i4 σ5 h
def f_X10_numberHere_34 (a0 : Nat) (i1 : Int32) (i2 : Int32) (i3 : Int32) (i4 : Int32) (σ : mm_S) : Option (Int32 × mm_S) :=
  lp lpN (fun (k34 : (Int32) → mm_S → Option (Int32 × mm_S)) (v : Int32) (σ : mm_S) =>
    bd (f_X10_isDigit a0 (σ.1 a0 8) σ) fun r9 σ8 =>
    if r9 = 0 then
      lt (su_i σ8 a0 10 v) fun σ11 =>
      if (5 : Int32) < ((σ11.1 a0 8) - i3) then
        f_X10_numberHere_117 a0 i3 σ11
      else
        bd (f_X10_in (v : Int32).toInt64 (i1 : Int32).toInt64 (i2 : Int32).toInt64 σ11) fun r16 σ15 =>
        if r16 = 0 then
          f_X10_numberHere_117 a0 i3 σ15
        else
          some ((1 : Int32), σ15)
    else
      if (5 : Int32) ≤ ((σ8.1 a0 8) - i3) then
        f_X10_numberHere_75 k34 a0 i1 i2 i3 v σ8
      else
        gd (σ8.1 a0 8) 400 <|
        lt (((((10 : Int32) * v) + (σ8.1 215 (σ8.1 a0 8).toNatClampNeg)) - (48 : Int32))) fun x20 =>
        f_X10_numberHere_75 k34 a0 i1 i2 i3 x20 σ8) i4 σ
theorem v_X10_numberHere_34 {g : mm_G} (d : Nat) {a0 : Nat} {i1 : Int32} {i2 : Int32} {i3 : Int32} {i4 : Int32} {σ : mm_S} {res : Int32 × mm_S}  (h_a0 : (mm_K a0).1 = 10) (h : f_X10_numberHere_34 a0 i1 i2 i3 i4 σ = some res) : SV g (d + 1) yy_X10_numberHere 34 [(0, .ref a0), (1, .int i1), (2, .int i2), (3, .int i3), (4, .int i4)] [] σ (.int res.1) res.2 := by
  unfold f_X10_numberHere_34 at h
  refine lp_ind (P := fun v σ => SV g (d + 1) yy_X10_numberHere 34 [(0, .ref a0), (1, .int i1), (2, .int i2), (3, .int i3), (4, .int v)] [] σ (.int res.1) res.2) (fun k34 H34 v σ h => ?_) _ i4 σ h
  refine e_aload_n 0 dX10_numberHere_34 rfl rfl ?_
  refine e_aload_n 0 dX10_numberHere_35 rfl rfl ?_
  refine s_geti dX10_numberHere_36 fl_RX10_108 h_a0 ?_
  obtain ⟨r9, σ8, q7, h⟩ := bd_some h
  refine s_callVi [.int (σ.1 a0 8)] dX10_numberHere_39 ml_RX10_126 h_a0 ⟨_, rfl, by decide⟩ rfl (v_X10_isDigit (d + 0) h_a0 q7) (Nat.le_of_ble_eq_true rfl) ?_
  refine e_if_eq 88 dX10_numberHere_42 (by decide) (fun c10 => ?_) (fun c10 => ?_)
  · rw [if_pos c10] at h
    refine e_aload_n 0 dX10_numberHere_88 rfl rfl ?_
    refine e_iload 4 dX10_numberHere_89  rfl ?_
    refine s_puti dX10_numberHere_91 fl_RX10_133 h_a0 rfl rfl rfl ?_
    obtain ⟨σ11, q12, h⟩ := lt_some h
    refine s_nms q12 ?_
    refine e_aload_n 0 dX10_numberHere_94 rfl rfl ?_
    refine s_geti dX10_numberHere_95 fl_RX10_108 h_a0 ?_
    refine e_iload_n 3 dX10_numberHere_98 rfl rfl ?_
    refine e_isub dX10_numberHere_99 ?_
    refine e_iconst (v := (5 : Int32)) dX10_numberHere_100 (by decide) ?_
    refine e_icmp_gt 117 dX10_numberHere_101 (by decide) (fun c13 => ?_) (fun c13 => ?_)
    · rw [if_pos c13] at h
      refine s_pick (L' := [(0, .ref a0), (3, .int i3)]) [0, 3] rfl ?_
      exact v_X10_numberHere_117 d h_a0 h
    · rw [if_neg c13] at h
      refine e_iload 4 dX10_numberHere_104  rfl ?_
      refine e_i2l dX10_numberHere_106 ?_
      refine e_iload_n 1 dX10_numberHere_107 rfl rfl ?_
      refine e_i2l dX10_numberHere_108 ?_
      refine e_iload_n 2 dX10_numberHere_109 rfl rfl ?_
      refine e_i2l dX10_numberHere_110 ?_
      obtain ⟨r16, σ15, q14, h⟩ := bd_some h
      refine s_callSi [.long (v : Int32).toInt64, .long (i1 : Int32).toInt64, .long (i2 : Int32).toInt64] dX10_numberHere_111 ml_RX10_136 ⟨_, rfl, by decide⟩ rfl (v_X10_in (d + 0)  q14) (Nat.le_of_ble_eq_true rfl) ?_
      refine e_if_ne 126 dX10_numberHere_114 (by decide) (fun c17 => ?_) (fun c17 => ?_)
      · rw [if_neg c17] at h
        refine e_iconst (v := (1 : Int32)) dX10_numberHere_126 (by decide) ?_
        refine e_goto 131 dX10_numberHere_127 (by decide) ?_
        obtain rfl := Option.some.inj h
        exact s_ret rfl ⟨_, rfl, nb1 (Or.inr rfl)⟩ dX10_numberHere_131
      · rw [if_pos c17] at h
        refine s_pick (L' := [(0, .ref a0), (3, .int i3)]) [0, 3] rfl ?_
        exact v_X10_numberHere_117 d h_a0 h
  · rw [if_neg c10] at h
    refine e_aload_n 0 dX10_numberHere_45 rfl rfl ?_
    refine s_geti dX10_numberHere_46 fl_RX10_108 h_a0 ?_
    refine e_iload_n 3 dX10_numberHere_49 rfl rfl ?_
    refine e_isub dX10_numberHere_50 ?_
    refine e_iconst (v := (5 : Int32)) dX10_numberHere_51 (by decide) ?_
    refine e_icmp_ge 75 dX10_numberHere_52 (by decide) (fun c18 => ?_) (fun c18 => ?_)
    · rw [if_pos c18] at h
      refine s_pick (L' := [(0, .ref a0), (1, .int i1), (2, .int i2), (3, .int i3), (4, .int v)]) [0, 1, 2, 3, 4] rfl ?_
      exact v_X10_numberHere_75 d H34 h_a0 h
    · rw [if_neg c18] at h
      refine e_bipush (v := (10 : Int32)) dX10_numberHere_55 (by decide) ?_
      refine e_iload 4 dX10_numberHere_57  rfl ?_
      refine e_imul dX10_numberHere_59 ?_
      refine e_aload_n 0 dX10_numberHere_60 rfl rfl ?_
      refine s_getr dX10_numberHere_61 fl_RX10_7 h_a0 (r_10_0 h_a0).1 ?_
      refine e_aload_n 0 dX10_numberHere_64 rfl rfl ?_
      refine s_geti dX10_numberHere_65 fl_RX10_108 h_a0 ?_
      obtain ⟨q19, h⟩ := gd_some h
      refine s_bald dX10_numberHere_68 (r_10_0 (w := 0) h_a0).2 q19 ?_
      refine e_iadd dX10_numberHere_69 ?_
      refine e_bipush (v := (48 : Int32)) dX10_numberHere_70 (by decide) ?_
      refine e_isub dX10_numberHere_72 ?_
      obtain ⟨x20, q21, h⟩ := lt_some h
      refine s_nmi q21 ?_
      refine e_istore (L' := [(0, .ref a0), (1, .int i1), (2, .int i2), (3, .int i3), (4, .int x20)]) dX10_numberHere_73  (by decide) rfl ?_
      refine s_pick (L' := [(0, .ref a0), (1, .int i1), (2, .int i2), (3, .int i3), (4, .int x20)]) [0, 1, 2, 3, 4] rfl ?_
      exact v_X10_numberHere_75 d H34 h_a0 h
def f_X10_numberHere (a0 : Nat) (i1 : Int32) (i2 : Int32) (σ : mm_S) : Option (Int32 × mm_S) :=
    bd (f_X10_see a0 σ) fun r37 σ36 =>
    bd (f_X10_isDigit a0 (σ36.1 a0 8) σ36) fun r40 σ39 =>
    if r40 = 0 then
      bd (f_X10_fails a0 (0 : Int32) (σ39.1 a0 8) σ39) fun r46 σ45 =>
      gb r46 <|
      some (r46, σ45)
    else
      lt ((σ39.1 a0 8)) fun x42 =>
      f_X10_numberHere_34 a0 i1 i2 x42 (0 : Int32) σ39
theorem v_X10_numberHere {g : mm_G} (d : Nat) {a0 : Nat} {i1 : Int32} {i2 : Int32} {σ : mm_S} {res : Int32 × mm_S} (h_a0 : (mm_K a0).1 = 10) (h : f_X10_numberHere a0 i1 i2 σ = some res) : SM g (d + 1) yy_X10_numberHere [.ref a0, .int i1, .int i2] σ (.int res.1) res.2 := by
  refine s_of (by decide) (Nat.le_of_ble_eq_true rfl) (L := [(0, .ref a0), (1, .int i1), (2, .int i2)]) rfl ?_
  unfold f_X10_numberHere at h
  refine e_aload_n 0 dX10_numberHere_0 rfl rfl ?_
  obtain ⟨r37, σ36, q35, h⟩ := bd_some h
  refine s_callVi [] dX10_numberHere_1 ml_RX10_111 h_a0 ⟨_, rfl, by decide⟩ rfl (v_X10_see (d + 0) h_a0 q35) (Nat.le_of_ble_eq_true rfl) ?_
  refine e_pop dX10_numberHere_4 rfl ?_
  refine e_aload_n 0 dX10_numberHere_5 rfl rfl ?_
  refine e_aload_n 0 dX10_numberHere_6 rfl rfl ?_
  refine s_geti dX10_numberHere_7 fl_RX10_108 h_a0 ?_
  obtain ⟨r40, σ39, q38, h⟩ := bd_some h
  refine s_callVi [.int (σ36.1 a0 8)] dX10_numberHere_10 ml_RX10_126 h_a0 ⟨_, rfl, by decide⟩ rfl (v_X10_isDigit (d + 0) h_a0 q38) (Nat.le_of_ble_eq_true rfl) ?_
  refine e_if_ne 26 dX10_numberHere_13 (by decide) (fun c41 => ?_) (fun c41 => ?_)
  · rw [if_neg c41] at h
    refine e_aload_n 0 dX10_numberHere_26 rfl rfl ?_
    refine s_geti dX10_numberHere_27 fl_RX10_108 h_a0 ?_
    obtain ⟨x42, q43, h⟩ := lt_some h
    refine s_nmi q43 ?_
    refine e_istore_n (L' := [(0, .ref a0), (1, .int i1), (2, .int i2), (3, .int x42)]) dX10_numberHere_30 rfl (by decide) rfl ?_
    refine e_iconst (v := (0 : Int32)) dX10_numberHere_31 (by decide) ?_
    refine e_istore (L' := [(0, .ref a0), (1, .int i1), (2, .int i2), (3, .int x42), (4, .int (0 : Int32))]) dX10_numberHere_32  (by decide) rfl ?_
    refine s_pick (L' := [(0, .ref a0), (1, .int i1), (2, .int i2), (3, .int x42), (4, .int (0 : Int32))]) [0, 1, 2, 3, 4] rfl ?_
    exact v_X10_numberHere_34 d h_a0 h
  · rw [if_pos c41] at h
    refine e_aload_n 0 dX10_numberHere_16 rfl rfl ?_
    refine e_iconst (v := (0 : Int32)) dX10_numberHere_17 (by decide) ?_
    refine e_aload_n 0 dX10_numberHere_18 rfl rfl ?_
    refine s_geti dX10_numberHere_19 fl_RX10_108 h_a0 ?_
    obtain ⟨r46, σ45, q44, h⟩ := bd_some h
    refine s_callVi [.int (0 : Int32), .int (σ39.1 a0 8)] dX10_numberHere_22 ml_RX10_129 h_a0 ⟨_, rfl, by decide⟩ rfl (v_X10_fails (d + 0) h_a0 q44) (Nat.le_of_ble_eq_true rfl) ?_
    obtain ⟨q47, h⟩ := gb_some h
    obtain rfl := Option.some.inj h
    exact s_ret rfl ⟨_, rfl, nb1 q47⟩ dX10_numberHere_25
abbrev yy_X10_wordHere : mm_Y := (yX10_wordHere, cX10_wordHere, 1, (some .int))
theorem dX10_wordHere_0 : decode cX10_wordHere 0 = .ok (.aload_n 0, 1) := by decide +kernel
theorem dX10_wordHere_1 : decode cX10_wordHere 1 = .ok (.ldc2_w 140, 3) := by decide +kernel
theorem dX10_wordHere_4 : decode cX10_wordHere 4 = .ok (.invokevirtual 119, 3) := by decide +kernel
theorem dX10_wordHere_7 : decode cX10_wordHere 7 = .ok (.ifCond .eq 5, 3) := by decide +kernel
theorem dX10_wordHere_10 : decode cX10_wordHere 10 = .ok (.iconst 0, 1) := by decide +kernel
theorem dX10_wordHere_11 : decode cX10_wordHere 11 = .ok (.ireturn, 1) := by decide +kernel
theorem dX10_wordHere_12 : decode cX10_wordHere 12 = .ok (.aload_n 0, 1) := by decide +kernel
theorem dX10_wordHere_13 : decode cX10_wordHere 13 = .ok (.ldc2_w 142, 3) := by decide +kernel
theorem dX10_wordHere_16 : decode cX10_wordHere 16 = .ok (.invokevirtual 119, 3) := by decide +kernel
theorem dX10_wordHere_19 : decode cX10_wordHere 19 = .ok (.ifCond .eq 5, 3) := by decide +kernel
theorem dX10_wordHere_22 : decode cX10_wordHere 22 = .ok (.iconst 1, 1) := by decide +kernel
theorem dX10_wordHere_23 : decode cX10_wordHere 23 = .ok (.ireturn, 1) := by decide +kernel
theorem dX10_wordHere_24 : decode cX10_wordHere 24 = .ok (.aload_n 0, 1) := by decide +kernel
theorem dX10_wordHere_25 : decode cX10_wordHere 25 = .ok (.ldc2_w 144, 3) := by decide +kernel
theorem dX10_wordHere_28 : decode cX10_wordHere 28 = .ok (.invokevirtual 119, 3) := by decide +kernel
theorem dX10_wordHere_31 : decode cX10_wordHere 31 = .ok (.ifCond .eq 5, 3) := by decide +kernel
theorem dX10_wordHere_34 : decode cX10_wordHere 34 = .ok (.iconst 2, 1) := by decide +kernel
theorem dX10_wordHere_35 : decode cX10_wordHere 35 = .ok (.ireturn, 1) := by decide +kernel
theorem dX10_wordHere_36 : decode cX10_wordHere 36 = .ok (.aload_n 0, 1) := by decide +kernel
theorem dX10_wordHere_37 : decode cX10_wordHere 37 = .ok (.ldc2_w 146, 3) := by decide +kernel
theorem dX10_wordHere_40 : decode cX10_wordHere 40 = .ok (.invokevirtual 119, 3) := by decide +kernel
theorem dX10_wordHere_43 : decode cX10_wordHere 43 = .ok (.ifCond .eq 5, 3) := by decide +kernel
theorem dX10_wordHere_46 : decode cX10_wordHere 46 = .ok (.iconst 3, 1) := by decide +kernel
theorem dX10_wordHere_47 : decode cX10_wordHere 47 = .ok (.ireturn, 1) := by decide +kernel
theorem dX10_wordHere_48 : decode cX10_wordHere 48 = .ok (.aload_n 0, 1) := by decide +kernel
theorem dX10_wordHere_49 : decode cX10_wordHere 49 = .ok (.ldc2_w 148, 3) := by decide +kernel
theorem dX10_wordHere_52 : decode cX10_wordHere 52 = .ok (.invokevirtual 119, 3) := by decide +kernel
theorem dX10_wordHere_55 : decode cX10_wordHere 55 = .ok (.ifCond .eq 5, 3) := by decide +kernel
theorem dX10_wordHere_58 : decode cX10_wordHere 58 = .ok (.iconst 4, 1) := by decide +kernel
theorem dX10_wordHere_59 : decode cX10_wordHere 59 = .ok (.ireturn, 1) := by decide +kernel
theorem dX10_wordHere_60 : decode cX10_wordHere 60 = .ok (.aload_n 0, 1) := by decide +kernel
theorem dX10_wordHere_61 : decode cX10_wordHere 61 = .ok (.ldc2_w 150, 3) := by decide +kernel
theorem dX10_wordHere_64 : decode cX10_wordHere 64 = .ok (.invokevirtual 119, 3) := by decide +kernel
theorem dX10_wordHere_67 : decode cX10_wordHere 67 = .ok (.ifCond .eq 5, 3) := by decide +kernel
theorem dX10_wordHere_70 : decode cX10_wordHere 70 = .ok (.iconst 5, 1) := by decide +kernel
theorem dX10_wordHere_71 : decode cX10_wordHere 71 = .ok (.ireturn, 1) := by decide +kernel
theorem dX10_wordHere_72 : decode cX10_wordHere 72 = .ok (.aload_n 0, 1) := by decide +kernel
theorem dX10_wordHere_73 : decode cX10_wordHere 73 = .ok (.ldc2_w 152, 3) := by decide +kernel
theorem dX10_wordHere_76 : decode cX10_wordHere 76 = .ok (.invokevirtual 119, 3) := by decide +kernel
theorem dX10_wordHere_79 : decode cX10_wordHere 79 = .ok (.ifCond .eq 6, 3) := by decide +kernel
theorem dX10_wordHere_82 : decode cX10_wordHere 82 = .ok (.bipush 6, 2) := by decide +kernel
theorem dX10_wordHere_84 : decode cX10_wordHere 84 = .ok (.ireturn, 1) := by decide +kernel
theorem dX10_wordHere_85 : decode cX10_wordHere 85 = .ok (.aload_n 0, 1) := by decide +kernel
theorem dX10_wordHere_86 : decode cX10_wordHere 86 = .ok (.ldc2_w 154, 3) := by decide +kernel
theorem dX10_wordHere_89 : decode cX10_wordHere 89 = .ok (.invokevirtual 119, 3) := by decide +kernel
theorem dX10_wordHere_92 : decode cX10_wordHere 92 = .ok (.ifCond .eq 6, 3) := by decide +kernel
theorem dX10_wordHere_95 : decode cX10_wordHere 95 = .ok (.bipush 7, 2) := by decide +kernel
theorem dX10_wordHere_97 : decode cX10_wordHere 97 = .ok (.ireturn, 1) := by decide +kernel
theorem dX10_wordHere_98 : decode cX10_wordHere 98 = .ok (.aload_n 0, 1) := by decide +kernel
theorem dX10_wordHere_99 : decode cX10_wordHere 99 = .ok (.ldc2_w 156, 3) := by decide +kernel
theorem dX10_wordHere_102 : decode cX10_wordHere 102 = .ok (.invokevirtual 119, 3) := by decide +kernel
theorem dX10_wordHere_105 : decode cX10_wordHere 105 = .ok (.ifCond .eq 6, 3) := by decide +kernel
theorem dX10_wordHere_108 : decode cX10_wordHere 108 = .ok (.bipush 8, 2) := by decide +kernel
theorem dX10_wordHere_110 : decode cX10_wordHere 110 = .ok (.ireturn, 1) := by decide +kernel
theorem dX10_wordHere_111 : decode cX10_wordHere 111 = .ok (.aload_n 0, 1) := by decide +kernel
theorem dX10_wordHere_112 : decode cX10_wordHere 112 = .ok (.ldc2_w 158, 3) := by decide +kernel
theorem dX10_wordHere_115 : decode cX10_wordHere 115 = .ok (.invokevirtual 119, 3) := by decide +kernel
theorem dX10_wordHere_118 : decode cX10_wordHere 118 = .ok (.ifCond .eq 6, 3) := by decide +kernel
theorem dX10_wordHere_121 : decode cX10_wordHere 121 = .ok (.bipush 9, 2) := by decide +kernel
theorem dX10_wordHere_123 : decode cX10_wordHere 123 = .ok (.ireturn, 1) := by decide +kernel
theorem dX10_wordHere_124 : decode cX10_wordHere 124 = .ok (.aload_n 0, 1) := by decide +kernel
theorem dX10_wordHere_125 : decode cX10_wordHere 125 = .ok (.ldc2_w 160, 3) := by decide +kernel
theorem dX10_wordHere_128 : decode cX10_wordHere 128 = .ok (.invokevirtual 119, 3) := by decide +kernel
theorem dX10_wordHere_131 : decode cX10_wordHere 131 = .ok (.ifCond .eq 6, 3) := by decide +kernel
theorem dX10_wordHere_134 : decode cX10_wordHere 134 = .ok (.bipush 10, 2) := by decide +kernel
theorem dX10_wordHere_136 : decode cX10_wordHere 136 = .ok (.ireturn, 1) := by decide +kernel
theorem dX10_wordHere_137 : decode cX10_wordHere 137 = .ok (.aload_n 0, 1) := by decide +kernel
theorem dX10_wordHere_138 : decode cX10_wordHere 138 = .ok (.ldc2_w 162, 3) := by decide +kernel
theorem dX10_wordHere_141 : decode cX10_wordHere 141 = .ok (.invokevirtual 119, 3) := by decide +kernel
theorem dX10_wordHere_144 : decode cX10_wordHere 144 = .ok (.ifCond .eq 8, 3) := by decide +kernel
theorem dX10_wordHere_147 : decode cX10_wordHere 147 = .ok (.bipush 11, 2) := by decide +kernel
theorem dX10_wordHere_149 : decode cX10_wordHere 149 = .ok (.goto 19, 3) := by decide +kernel
theorem dX10_wordHere_152 : decode cX10_wordHere 152 = .ok (.aload_n 0, 1) := by decide +kernel
theorem dX10_wordHere_153 : decode cX10_wordHere 153 = .ok (.ldc2_w 164, 3) := by decide +kernel
theorem dX10_wordHere_156 : decode cX10_wordHere 156 = .ok (.invokevirtual 119, 3) := by decide +kernel
theorem dX10_wordHere_159 : decode cX10_wordHere 159 = .ok (.ifCond .eq 8, 3) := by decide +kernel
theorem dX10_wordHere_162 : decode cX10_wordHere 162 = .ok (.bipush 12, 2) := by decide +kernel
theorem dX10_wordHere_164 : decode cX10_wordHere 164 = .ok (.goto 4, 3) := by decide +kernel
theorem dX10_wordHere_167 : decode cX10_wordHere 167 = .ok (.iconst (-1), 1) := by decide +kernel
theorem dX10_wordHere_168 : decode cX10_wordHere 168 = .ok (.ireturn, 1) := by decide +kernel
def f_X10_wordHere (a0 : Nat) (σ : mm_S) : Option (Int32 × mm_S) :=
    bd (f_X10_isWord a0 (418520242 : Int64) σ) fun r55 σ54 =>
    if r55 = 0 then
      bd (f_X10_isWord a0 (16392370 : Int64) σ54) fun r59 σ58 =>
      if r59 = 0 then
        bd (f_X10_isWord a0 (21285028 : Int64) σ58) fun r63 σ62 =>
        if r63 = 0 then
          bd (f_X10_isWord a0 (550036685768868 : Int64) σ62) fun r67 σ66 =>
          if r67 = 0 then
            bd (f_X10_isWord a0 (16955493 : Int64) σ66) fun r71 σ70 =>
            if r71 = 0 then
              bd (f_X10_isWord a0 (550036681439333 : Int64) σ70) fun r75 σ74 =>
              if r75 = 0 then
                bd (f_X10_isWord a0 (136242 : Int64) σ74) fun r79 σ78 =>
                if r79 = 0 then
                  bd (f_X10_isWord a0 (66667 : Int64) σ78) fun r83 σ82 =>
                  if r83 = 0 then
                    bd (f_X10_isWord a0 (20574475859 : Int64) σ82) fun r87 σ86 =>
                    if r87 = 0 then
                      bd (f_X10_isWord a0 (317301893 : Int64) σ86) fun r91 σ90 =>
                      if r91 = 0 then
                        bd (f_X10_isWord a0 (21997134003 : Int64) σ90) fun r95 σ94 =>
                        if r95 = 0 then
                          bd (f_X10_isWord a0 (3554411 : Int64) σ94) fun r99 σ98 =>
                          if r99 = 0 then
                            bd (f_X10_isWord a0 (278194 : Int64) σ98) fun r103 σ102 =>
                            if r103 = 0 then
                              some ((-1 : Int32), σ102)
                            else
                              some ((12 : Int32), σ102)
                          else
                            some ((11 : Int32), σ98)
                        else
                          some ((10 : Int32), σ94)
                      else
                        some ((9 : Int32), σ90)
                    else
                      some ((8 : Int32), σ86)
                  else
                    some ((7 : Int32), σ82)
                else
                  some ((6 : Int32), σ78)
              else
                some ((5 : Int32), σ74)
            else
              some ((4 : Int32), σ70)
          else
            some ((3 : Int32), σ66)
        else
          some ((2 : Int32), σ62)
      else
        some ((1 : Int32), σ58)
    else
      some ((0 : Int32), σ54)
theorem v_X10_wordHere {g : mm_G} (d : Nat) {a0 : Nat} {σ : mm_S} {res : Int32 × mm_S} (h_a0 : (mm_K a0).1 = 10) (h : f_X10_wordHere a0 σ = some res) : SM g (d + 2) yy_X10_wordHere [.ref a0] σ (.int res.1) res.2 := by
  refine s_of (by decide) (Nat.le_of_ble_eq_true rfl) (L := [(0, .ref a0)]) rfl ?_
  unfold f_X10_wordHere at h
  refine e_aload_n 0 dX10_wordHere_0 rfl rfl ?_
  refine e_ldc2 dX10_wordHere_1 co_RX10_140 ?_
  obtain ⟨r55, σ54, q53, h⟩ := bd_some h
  refine s_callVi [.long (418520242 : Int64)] dX10_wordHere_4 ml_RX10_119 h_a0 ⟨_, rfl, by decide⟩ rfl (v_X10_isWord (d + 0) h_a0 q53) (Nat.le_of_ble_eq_true rfl) ?_
  refine e_if_eq 12 dX10_wordHere_7 (by decide) (fun c56 => ?_) (fun c56 => ?_)
  · rw [if_pos c56] at h
    refine e_aload_n 0 dX10_wordHere_12 rfl rfl ?_
    refine e_ldc2 dX10_wordHere_13 co_RX10_142 ?_
    obtain ⟨r59, σ58, q57, h⟩ := bd_some h
    refine s_callVi [.long (16392370 : Int64)] dX10_wordHere_16 ml_RX10_119 h_a0 ⟨_, rfl, by decide⟩ rfl (v_X10_isWord (d + 0) h_a0 q57) (Nat.le_of_ble_eq_true rfl) ?_
    refine e_if_eq 24 dX10_wordHere_19 (by decide) (fun c60 => ?_) (fun c60 => ?_)
    · rw [if_pos c60] at h
      refine e_aload_n 0 dX10_wordHere_24 rfl rfl ?_
      refine e_ldc2 dX10_wordHere_25 co_RX10_144 ?_
      obtain ⟨r63, σ62, q61, h⟩ := bd_some h
      refine s_callVi [.long (21285028 : Int64)] dX10_wordHere_28 ml_RX10_119 h_a0 ⟨_, rfl, by decide⟩ rfl (v_X10_isWord (d + 0) h_a0 q61) (Nat.le_of_ble_eq_true rfl) ?_
      refine e_if_eq 36 dX10_wordHere_31 (by decide) (fun c64 => ?_) (fun c64 => ?_)
      · rw [if_pos c64] at h
        refine e_aload_n 0 dX10_wordHere_36 rfl rfl ?_
        refine e_ldc2 dX10_wordHere_37 co_RX10_146 ?_
        obtain ⟨r67, σ66, q65, h⟩ := bd_some h
        refine s_callVi [.long (550036685768868 : Int64)] dX10_wordHere_40 ml_RX10_119 h_a0 ⟨_, rfl, by decide⟩ rfl (v_X10_isWord (d + 0) h_a0 q65) (Nat.le_of_ble_eq_true rfl) ?_
        refine e_if_eq 48 dX10_wordHere_43 (by decide) (fun c68 => ?_) (fun c68 => ?_)
        · rw [if_pos c68] at h
          refine e_aload_n 0 dX10_wordHere_48 rfl rfl ?_
          refine e_ldc2 dX10_wordHere_49 co_RX10_148 ?_
          obtain ⟨r71, σ70, q69, h⟩ := bd_some h
          refine s_callVi [.long (16955493 : Int64)] dX10_wordHere_52 ml_RX10_119 h_a0 ⟨_, rfl, by decide⟩ rfl (v_X10_isWord (d + 0) h_a0 q69) (Nat.le_of_ble_eq_true rfl) ?_
          refine e_if_eq 60 dX10_wordHere_55 (by decide) (fun c72 => ?_) (fun c72 => ?_)
          · rw [if_pos c72] at h
            refine e_aload_n 0 dX10_wordHere_60 rfl rfl ?_
            refine e_ldc2 dX10_wordHere_61 co_RX10_150 ?_
            obtain ⟨r75, σ74, q73, h⟩ := bd_some h
            refine s_callVi [.long (550036681439333 : Int64)] dX10_wordHere_64 ml_RX10_119 h_a0 ⟨_, rfl, by decide⟩ rfl (v_X10_isWord (d + 0) h_a0 q73) (Nat.le_of_ble_eq_true rfl) ?_
            refine e_if_eq 72 dX10_wordHere_67 (by decide) (fun c76 => ?_) (fun c76 => ?_)
            · rw [if_pos c76] at h
              refine e_aload_n 0 dX10_wordHere_72 rfl rfl ?_
              refine e_ldc2 dX10_wordHere_73 co_RX10_152 ?_
              obtain ⟨r79, σ78, q77, h⟩ := bd_some h
              refine s_callVi [.long (136242 : Int64)] dX10_wordHere_76 ml_RX10_119 h_a0 ⟨_, rfl, by decide⟩ rfl (v_X10_isWord (d + 0) h_a0 q77) (Nat.le_of_ble_eq_true rfl) ?_
              refine e_if_eq 85 dX10_wordHere_79 (by decide) (fun c80 => ?_) (fun c80 => ?_)
              · rw [if_pos c80] at h
                refine e_aload_n 0 dX10_wordHere_85 rfl rfl ?_
                refine e_ldc2 dX10_wordHere_86 co_RX10_154 ?_
                obtain ⟨r83, σ82, q81, h⟩ := bd_some h
                refine s_callVi [.long (66667 : Int64)] dX10_wordHere_89 ml_RX10_119 h_a0 ⟨_, rfl, by decide⟩ rfl (v_X10_isWord (d + 0) h_a0 q81) (Nat.le_of_ble_eq_true rfl) ?_
                refine e_if_eq 98 dX10_wordHere_92 (by decide) (fun c84 => ?_) (fun c84 => ?_)
                · rw [if_pos c84] at h
                  refine e_aload_n 0 dX10_wordHere_98 rfl rfl ?_
                  refine e_ldc2 dX10_wordHere_99 co_RX10_156 ?_
                  obtain ⟨r87, σ86, q85, h⟩ := bd_some h
                  refine s_callVi [.long (20574475859 : Int64)] dX10_wordHere_102 ml_RX10_119 h_a0 ⟨_, rfl, by decide⟩ rfl (v_X10_isWord (d + 0) h_a0 q85) (Nat.le_of_ble_eq_true rfl) ?_
                  refine e_if_eq 111 dX10_wordHere_105 (by decide) (fun c88 => ?_) (fun c88 => ?_)
                  · rw [if_pos c88] at h
                    refine e_aload_n 0 dX10_wordHere_111 rfl rfl ?_
                    refine e_ldc2 dX10_wordHere_112 co_RX10_158 ?_
                    obtain ⟨r91, σ90, q89, h⟩ := bd_some h
                    refine s_callVi [.long (317301893 : Int64)] dX10_wordHere_115 ml_RX10_119 h_a0 ⟨_, rfl, by decide⟩ rfl (v_X10_isWord (d + 0) h_a0 q89) (Nat.le_of_ble_eq_true rfl) ?_
                    refine e_if_eq 124 dX10_wordHere_118 (by decide) (fun c92 => ?_) (fun c92 => ?_)
                    · rw [if_pos c92] at h
                      refine e_aload_n 0 dX10_wordHere_124 rfl rfl ?_
                      refine e_ldc2 dX10_wordHere_125 co_RX10_160 ?_
                      obtain ⟨r95, σ94, q93, h⟩ := bd_some h
                      refine s_callVi [.long (21997134003 : Int64)] dX10_wordHere_128 ml_RX10_119 h_a0 ⟨_, rfl, by decide⟩ rfl (v_X10_isWord (d + 0) h_a0 q93) (Nat.le_of_ble_eq_true rfl) ?_
                      refine e_if_eq 137 dX10_wordHere_131 (by decide) (fun c96 => ?_) (fun c96 => ?_)
                      · rw [if_pos c96] at h
                        refine e_aload_n 0 dX10_wordHere_137 rfl rfl ?_
                        refine e_ldc2 dX10_wordHere_138 co_RX10_162 ?_
                        obtain ⟨r99, σ98, q97, h⟩ := bd_some h
                        refine s_callVi [.long (3554411 : Int64)] dX10_wordHere_141 ml_RX10_119 h_a0 ⟨_, rfl, by decide⟩ rfl (v_X10_isWord (d + 0) h_a0 q97) (Nat.le_of_ble_eq_true rfl) ?_
                        refine e_if_eq 152 dX10_wordHere_144 (by decide) (fun c100 => ?_) (fun c100 => ?_)
                        · rw [if_pos c100] at h
                          refine e_aload_n 0 dX10_wordHere_152 rfl rfl ?_
                          refine e_ldc2 dX10_wordHere_153 co_RX10_164 ?_
                          obtain ⟨r103, σ102, q101, h⟩ := bd_some h
                          refine s_callVi [.long (278194 : Int64)] dX10_wordHere_156 ml_RX10_119 h_a0 ⟨_, rfl, by decide⟩ rfl (v_X10_isWord (d + 0) h_a0 q101) (Nat.le_of_ble_eq_true rfl) ?_
                          refine e_if_eq 167 dX10_wordHere_159 (by decide) (fun c104 => ?_) (fun c104 => ?_)
                          · rw [if_pos c104] at h
                            refine e_iconst (v := (-1 : Int32)) dX10_wordHere_167 (by decide) ?_
                            obtain rfl := Option.some.inj h
                            exact s_ret rfl ⟨_, rfl, rfl⟩ dX10_wordHere_168
                          · rw [if_neg c104] at h
                            refine e_bipush (v := (12 : Int32)) dX10_wordHere_162 (by decide) ?_
                            refine e_goto 168 dX10_wordHere_164 (by decide) ?_
                            obtain rfl := Option.some.inj h
                            exact s_ret rfl ⟨_, rfl, rfl⟩ dX10_wordHere_168
                        · rw [if_neg c100] at h
                          refine e_bipush (v := (11 : Int32)) dX10_wordHere_147 (by decide) ?_
                          refine e_goto 168 dX10_wordHere_149 (by decide) ?_
                          obtain rfl := Option.some.inj h
                          exact s_ret rfl ⟨_, rfl, rfl⟩ dX10_wordHere_168
                      · rw [if_neg c96] at h
                        refine e_bipush (v := (10 : Int32)) dX10_wordHere_134 (by decide) ?_
                        obtain rfl := Option.some.inj h
                        exact s_ret rfl ⟨_, rfl, rfl⟩ dX10_wordHere_136
                    · rw [if_neg c92] at h
                      refine e_bipush (v := (9 : Int32)) dX10_wordHere_121 (by decide) ?_
                      obtain rfl := Option.some.inj h
                      exact s_ret rfl ⟨_, rfl, rfl⟩ dX10_wordHere_123
                  · rw [if_neg c88] at h
                    refine e_bipush (v := (8 : Int32)) dX10_wordHere_108 (by decide) ?_
                    obtain rfl := Option.some.inj h
                    exact s_ret rfl ⟨_, rfl, rfl⟩ dX10_wordHere_110
                · rw [if_neg c84] at h
                  refine e_bipush (v := (7 : Int32)) dX10_wordHere_95 (by decide) ?_
                  obtain rfl := Option.some.inj h
                  exact s_ret rfl ⟨_, rfl, rfl⟩ dX10_wordHere_97
              · rw [if_neg c80] at h
                refine e_bipush (v := (6 : Int32)) dX10_wordHere_82 (by decide) ?_
                obtain rfl := Option.some.inj h
                exact s_ret rfl ⟨_, rfl, rfl⟩ dX10_wordHere_84
            · rw [if_neg c76] at h
              refine e_iconst (v := (5 : Int32)) dX10_wordHere_70 (by decide) ?_
              obtain rfl := Option.some.inj h
              exact s_ret rfl ⟨_, rfl, rfl⟩ dX10_wordHere_71
          · rw [if_neg c72] at h
            refine e_iconst (v := (4 : Int32)) dX10_wordHere_58 (by decide) ?_
            obtain rfl := Option.some.inj h
            exact s_ret rfl ⟨_, rfl, rfl⟩ dX10_wordHere_59
        · rw [if_neg c68] at h
          refine e_iconst (v := (3 : Int32)) dX10_wordHere_46 (by decide) ?_
          obtain rfl := Option.some.inj h
          exact s_ret rfl ⟨_, rfl, rfl⟩ dX10_wordHere_47
      · rw [if_neg c64] at h
        refine e_iconst (v := (2 : Int32)) dX10_wordHere_34 (by decide) ?_
        obtain rfl := Option.some.inj h
        exact s_ret rfl ⟨_, rfl, rfl⟩ dX10_wordHere_35
    · rw [if_neg c60] at h
      refine e_iconst (v := (1 : Int32)) dX10_wordHere_22 (by decide) ?_
      obtain rfl := Option.some.inj h
      exact s_ret rfl ⟨_, rfl, rfl⟩ dX10_wordHere_23
  · rw [if_neg c56] at h
    refine e_iconst (v := (0 : Int32)) dX10_wordHere_10 (by decide) ?_
    obtain rfl := Option.some.inj h
    exact s_ret rfl ⟨_, rfl, rfl⟩ dX10_wordHere_11
