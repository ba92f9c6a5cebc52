abbrev yy_X10_force : mm_Y := (yX10_force, cX10_force, 3, (some .int))
theorem dX10_force_0 : decode cX10_force 0 = .ok (.iload_n 1, 1) := by decide +kernel
theorem dX10_force_1 : decode cX10_force 1 = .ok (.iconst (-1), 1) := by decide +kernel
theorem dX10_force_2 : decode cX10_force 2 = .ok (.if_icmp .eq 14, 3) := by decide +kernel
theorem dX10_force_5 : decode cX10_force 5 = .ok (.aload_n 0, 1) := by decide +kernel
theorem dX10_force_6 : decode cX10_force 6 = .ok (.iload_n 1, 1) := by decide +kernel
theorem dX10_force_7 : decode cX10_force 7 = .ok (.invokevirtual 317, 3) := by decide +kernel
theorem dX10_force_10 : decode cX10_force 10 = .ok (.ifCond .ne 6, 3) := by decide +kernel
theorem dX10_force_13 : decode cX10_force 13 = .ok (.bipush (-2), 2) := by decide +kernel
theorem dX10_force_15 : decode cX10_force 15 = .ok (.ireturn, 1) := by decide +kernel
theorem dX10_force_16 : decode cX10_force 16 = .ok (.aload_n 0, 1) := by decide +kernel
theorem dX10_force_17 : decode cX10_force 17 = .ok (.getfield 42, 3) := by decide +kernel
theorem dX10_force_20 : decode cX10_force 20 = .ok (.istore_n 2, 1) := by decide +kernel
theorem dX10_force_21 : decode cX10_force 21 = .ok (.aload_n 0, 1) := by decide +kernel
theorem dX10_force_22 : decode cX10_force 22 = .ok (.iload_n 1, 1) := by decide +kernel
theorem dX10_force_23 : decode cX10_force 23 = .ok (.putfield 42, 3) := by decide +kernel
theorem dX10_force_26 : decode cX10_force 26 = .ok (.iload_n 2, 1) := by decide +kernel
theorem dX10_force_27 : decode cX10_force 27 = .ok (.ireturn, 1) := by decide +kernel
def f_X10_force_16 (a0 : Nat) (i1 : Int32) (σ : mm_S) : Option (Int32 × mm_S) :=
    lt ((σ.1 a0 21)) fun x1 =>
    lt (su_i σ a0 21 i1) fun σ3 =>
    some (x1, σ3)
theorem v_X10_force_16 {g : mm_G} (d : Nat) {a0 : Nat} {i1 : Int32} {σ : mm_S} {res : Int32 × mm_S}  (h_a0 : (mm_K a0).1 = 10) (h : f_X10_force_16 a0 i1 σ = some res) : SV g (d + 1) yy_X10_force 16 [(0, .ref a0), (1, .int i1)] [] σ (.int res.1) res.2 := by
  unfold f_X10_force_16 at h
  refine e_aload_n 0 dX10_force_16 rfl rfl ?_
  refine s_geti dX10_force_17 fl_RX10_42 h_a0 ?_
  obtain ⟨x1, q2, h⟩ := lt_some h
  refine s_nmi q2 ?_
  refine e_istore_n (L' := [(0, .ref a0), (1, .int i1), (2, .int x1)]) dX10_force_20 rfl (by decide) rfl ?_
  refine e_aload_n 0 dX10_force_21 rfl rfl ?_
  refine e_iload_n 1 dX10_force_22 rfl rfl ?_
  refine s_puti dX10_force_23 fl_RX10_42 h_a0 rfl rfl rfl ?_
  obtain ⟨σ3, q4, h⟩ := lt_some h
  refine s_nms q4 ?_
  refine e_iload_n 2 dX10_force_26 rfl rfl ?_
  obtain rfl := Option.some.inj h
  exact s_ret rfl ⟨_, rfl, rfl⟩ dX10_force_27
def f_X10_force (a0 : Nat) (i1 : Int32) (σ : mm_S) : Option (Int32 × mm_S) :=
    if i1 = (-1 : Int32) then
      f_X10_force_16 a0 i1 σ
    else
      bd (f_X10_isRule a0 i1 σ) fun r13 σ12 =>
      if r13 = 0 then
        some ((-2 : Int32), σ12)
      else
        f_X10_force_16 a0 i1 σ12
theorem v_X10_force {g : mm_G} (d : Nat) {a0 : Nat} {i1 : Int32} {σ : mm_S} {res : Int32 × mm_S} (h_a0 : (mm_K a0).1 = 10) (h : f_X10_force a0 i1 σ = some res) : SM g (d + 1) yy_X10_force [.ref a0, .int i1] σ (.int res.1) res.2 := by
  refine s_of (by decide) (Nat.le_of_ble_eq_true rfl) (L := [(0, .ref a0), (1, .int i1)]) rfl ?_
  unfold f_X10_force at h
  refine e_iload_n 1 dX10_force_0 rfl rfl ?_
  refine e_iconst (v := (-1 : Int32)) dX10_force_1 (by decide) ?_
  refine e_icmp_eq 16 dX10_force_2 (by decide) (fun c10 => ?_) (fun c10 => ?_)
  · rw [if_pos c10] at h
    refine s_pick (L' := [(0, .ref a0), (1, .int i1)]) [0, 1] rfl ?_
    exact v_X10_force_16 d h_a0 h
  · rw [if_neg c10] at h
    refine e_aload_n 0 dX10_force_5 rfl rfl ?_
    refine e_iload_n 1 dX10_force_6 rfl rfl ?_
    obtain ⟨r13, σ12, q11, h⟩ := bd_some h
    refine s_callVi [.int i1] dX10_force_7 ml_RX10_317 h_a0 ⟨_, rfl, by decide⟩ rfl (v_X10_isRule (d + 0) h_a0 q11) (Nat.le_of_ble_eq_true rfl) ?_
    refine e_if_ne 16 dX10_force_10 (by decide) (fun c14 => ?_) (fun c14 => ?_)
    · rw [if_neg c14] at h
      refine s_pick (L' := [(0, .ref a0), (1, .int i1)]) [0, 1] rfl ?_
      exact v_X10_force_16 d h_a0 h
    · rw [if_pos c14] at h
      refine e_bipush (v := (-2 : Int32)) dX10_force_13 (by decide) ?_
      obtain rfl := Option.some.inj h
      exact s_ret rfl ⟨_, rfl, rfl⟩ dX10_force_15
abbrev yy_X10_lodger : mm_Y := (yX10_lodger, cX10_lodger, 3, (some .int))
theorem dX10_lodger_0 : decode cX10_lodger 0 = .ok (.aload_n 0, 1) := by decide +kernel
theorem dX10_lodger_1 : decode cX10_lodger 1 = .ok (.iload_n 1, 1) := by decide +kernel
theorem dX10_lodger_2 : decode cX10_lodger 2 = .ok (.invokevirtual 320, 3) := by decide +kernel
theorem dX10_lodger_5 : decode cX10_lodger 5 = .ok (.ifCond .eq 31, 3) := by decide +kernel
theorem dX10_lodger_8 : decode cX10_lodger 8 = .ok (.iload_n 2, 1) := by decide +kernel
theorem dX10_lodger_9 : decode cX10_lodger 9 = .ok (.i2l, 1) := by decide +kernel
theorem dX10_lodger_10 : decode cX10_lodger 10 = .ok (.lconst 0, 1) := by decide +kernel
theorem dX10_lodger_11 : decode cX10_lodger 11 = .ok (.ldc2_w 323, 3) := by decide +kernel
theorem dX10_lodger_14 : decode cX10_lodger 14 = .ok (.invokestatic 136, 3) := by decide +kernel
theorem dX10_lodger_17 : decode cX10_lodger 17 = .ok (.ifCond .eq 19, 3) := by decide +kernel
theorem dX10_lodger_20 : decode cX10_lodger 20 = .ok (.aload_n 0, 1) := by decide +kernel
theorem dX10_lodger_21 : decode cX10_lodger 21 = .ok (.getfield 39, 3) := by decide +kernel
theorem dX10_lodger_24 : decode cX10_lodger 24 = .ok (.bipush 11, 2) := by decide +kernel
theorem dX10_lodger_26 : decode cX10_lodger 26 = .ok (.iconst 5, 1) := by decide +kernel
theorem dX10_lodger_27 : decode cX10_lodger 27 = .ok (.iload_n 1, 1) := by decide +kernel
theorem dX10_lodger_28 : decode cX10_lodger 28 = .ok (.imul, 1) := by decide +kernel
theorem dX10_lodger_29 : decode cX10_lodger 29 = .ok (.iadd, 1) := by decide +kernel
theorem dX10_lodger_30 : decode cX10_lodger 30 = .ok (.iload_n 2, 1) := by decide +kernel
theorem dX10_lodger_31 : decode cX10_lodger 31 = .ok (.iadd, 1) := by decide +kernel
theorem dX10_lodger_32 : decode cX10_lodger 32 = .ok (.iaload, 1) := by decide +kernel
theorem dX10_lodger_33 : decode cX10_lodger 33 = .ok (.goto 5, 3) := by decide +kernel
theorem dX10_lodger_36 : decode cX10_lodger 36 = .ok (.bipush (-2), 2) := by decide +kernel
theorem dX10_lodger_38 : decode cX10_lodger 38 = .ok (.ireturn, 1) := by decide +kernel
def f_X10_lodger (a0 : Nat) (i1 : Int32) (i2 : Int32) (σ : mm_S) : Option (Int32 × mm_S) :=
    bd (f_X10_isLodger a0 i1 σ) fun r12 σ11 =>
    if r12 = 0 then
      some ((-2 : Int32), σ11)
    else
      bd (f_X10_in (i2 : Int32).toInt64 (0 : Int64) (4 : Int64) σ11) fun r16 σ15 =>
      if r16 = 0 then
        some ((-2 : Int32), σ15)
      else
        gd (((11 : Int32) + ((5 : Int32) * i1)) + i2) 121 <|
        some ((σ15.1 224 (((11 : Int32) + ((5 : Int32) * i1)) + i2).toNatClampNeg), σ15)
theorem v_X10_lodger {g : mm_G} (d : Nat) {a0 : Nat} {i1 : Int32} {i2 : Int32} {σ : mm_S} {res : Int32 × mm_S} (h_a0 : (mm_K a0).1 = 10) (h : f_X10_lodger a0 i1 i2 σ = some res) : SM g (d + 1) yy_X10_lodger [.ref a0, .int i1, .int i2] σ (.int res.1) res.2 := by
  refine s_of (by decide) (Nat.le_of_ble_eq_true rfl) (L := [(0, .ref a0), (1, .int i1), (2, .int i2)]) rfl ?_
  unfold f_X10_lodger at h
  refine e_aload_n 0 dX10_lodger_0 rfl rfl ?_
  refine e_iload_n 1 dX10_lodger_1 rfl rfl ?_
  obtain ⟨r12, σ11, q10, h⟩ := bd_some h
  refine s_callVi [.int i1] dX10_lodger_2 ml_RX10_320 h_a0 ⟨_, rfl, by decide⟩ rfl (v_X10_isLodger (d + 0) h_a0 q10) (Nat.le_of_ble_eq_true rfl) ?_
  refine e_if_eq 36 dX10_lodger_5 (by decide) (fun c13 => ?_) (fun c13 => ?_)
  · rw [if_pos c13] at h
    refine e_bipush (v := (-2 : Int32)) dX10_lodger_36 (by decide) ?_
    obtain rfl := Option.some.inj h
    exact s_ret rfl ⟨_, rfl, rfl⟩ dX10_lodger_38
  · rw [if_neg c13] at h
    refine e_iload_n 2 dX10_lodger_8 rfl rfl ?_
    refine e_i2l dX10_lodger_9 ?_
    refine e_lconst (v := (0 : Int64)) dX10_lodger_10 (by decide) ?_
    refine e_ldc2 dX10_lodger_11 co_RX10_323 ?_
    obtain ⟨r16, σ15, q14, h⟩ := bd_some h
    refine s_callSi [.long (i2 : Int32).toInt64, .long (0 : Int64), .long (4 : Int64)] dX10_lodger_14 ml_RX10_136 ⟨_, rfl, by decide⟩ rfl (v_X10_in (d + 0)  q14) (Nat.le_of_ble_eq_true rfl) ?_
    refine e_if_eq 36 dX10_lodger_17 (by decide) (fun c17 => ?_) (fun c17 => ?_)
    · rw [if_pos c17] at h
      refine e_bipush (v := (-2 : Int32)) dX10_lodger_36 (by decide) ?_
      obtain rfl := Option.some.inj h
      exact s_ret rfl ⟨_, rfl, rfl⟩ dX10_lodger_38
    · rw [if_neg c17] at h
      refine e_aload_n 0 dX10_lodger_20 rfl rfl ?_
      refine s_getr dX10_lodger_21 fl_RX10_39 h_a0 (r_10_20 h_a0).1 ?_
      refine e_bipush (v := (11 : Int32)) dX10_lodger_24 (by decide) ?_
      refine e_iconst (v := (5 : Int32)) dX10_lodger_26 (by decide) ?_
      refine e_iload_n 1 dX10_lodger_27 rfl rfl ?_
      refine e_imul dX10_lodger_28 ?_
      refine e_iadd dX10_lodger_29 ?_
      refine e_iload_n 2 dX10_lodger_30 rfl rfl ?_
      refine e_iadd dX10_lodger_31 ?_
      obtain ⟨q18, h⟩ := gd_some h
      refine s_iald dX10_lodger_32 (r_10_20 (w := 0) h_a0).2 q18 ?_
      refine e_goto 38 dX10_lodger_33 (by decide) ?_
      obtain rfl := Option.some.inj h
      exact s_ret rfl ⟨_, rfl, rfl⟩ dX10_lodger_38
abbrev yy_X10_areTwo : mm_Y := (yX10_areTwo, cX10_areTwo, 3, (some .boolean))
theorem dX10_areTwo_0 : decode cX10_areTwo 0 = .ok (.aload_n 0, 1) := by decide +kernel
theorem dX10_areTwo_1 : decode cX10_areTwo 1 = .ok (.iload_n 1, 1) := by decide +kernel
theorem dX10_areTwo_2 : decode cX10_areTwo 2 = .ok (.invokevirtual 320, 3) := by decide +kernel
theorem dX10_areTwo_5 : decode cX10_areTwo 5 = .ok (.ifCond .eq 20, 3) := by decide +kernel
theorem dX10_areTwo_8 : decode cX10_areTwo 8 = .ok (.aload_n 0, 1) := by decide +kernel
theorem dX10_areTwo_9 : decode cX10_areTwo 9 = .ok (.iload_n 2, 1) := by decide +kernel
theorem dX10_areTwo_10 : decode cX10_areTwo 10 = .ok (.invokevirtual 320, 3) := by decide +kernel
theorem dX10_areTwo_13 : decode cX10_areTwo 13 = .ok (.ifCond .eq 12, 3) := by decide +kernel
theorem dX10_areTwo_16 : decode cX10_areTwo 16 = .ok (.iload_n 1, 1) := by decide +kernel
theorem dX10_areTwo_17 : decode cX10_areTwo 17 = .ok (.iload_n 2, 1) := by decide +kernel
theorem dX10_areTwo_18 : decode cX10_areTwo 18 = .ok (.if_icmp .eq 7, 3) := by decide +kernel
theorem dX10_areTwo_21 : decode cX10_areTwo 21 = .ok (.iconst 1, 1) := by decide +kernel
theorem dX10_areTwo_22 : decode cX10_areTwo 22 = .ok (.goto 4, 3) := by decide +kernel
theorem dX10_areTwo_25 : decode cX10_areTwo 25 = .ok (.iconst 0, 1) := by decide +kernel
theorem dX10_areTwo_26 : decode cX10_areTwo 26 = .ok (.ireturn, 1) := by decide +kernel
def f_X10_areTwo (a0 : Nat) (i1 : Int32) (i2 : Int32) (σ : mm_S) : Option (Int32 × mm_S) :=
    bd (f_X10_isLodger a0 i1 σ) fun r12 σ11 =>
    if r12 = 0 then
      some ((0 : Int32), σ11)
    else
      bd (f_X10_isLodger a0 i2 σ11) fun r16 σ15 =>
      if r16 = 0 then
        some ((0 : Int32), σ15)
      else
        if i1 = i2 then
          some ((0 : Int32), σ15)
        else
          some ((1 : Int32), σ15)
theorem v_X10_areTwo {g : mm_G} (d : Nat) {a0 : Nat} {i1 : Int32} {i2 : Int32} {σ : mm_S} {res : Int32 × mm_S} (h_a0 : (mm_K a0).1 = 10) (h : f_X10_areTwo a0 i1 i2 σ = some res) : SM g (d + 1) yy_X10_areTwo [.ref a0, .int i1, .int i2] σ (.int res.1) res.2 := by
  refine s_of (by decide) (Nat.le_of_ble_eq_true rfl) (L := [(0, .ref a0), (1, .int i1), (2, .int i2)]) rfl ?_
  unfold f_X10_areTwo at h
  refine e_aload_n 0 dX10_areTwo_0 rfl rfl ?_
  refine e_iload_n 1 dX10_areTwo_1 rfl rfl ?_
  obtain ⟨r12, σ11, q10, h⟩ := bd_some h
  refine s_callVi [.int i1] dX10_areTwo_2 ml_RX10_320 h_a0 ⟨_, rfl, by decide⟩ rfl (v_X10_isLodger (d + 0) h_a0 q10) (Nat.le_of_ble_eq_true rfl) ?_
  refine e_if_eq 25 dX10_areTwo_5 (by decide) (fun c13 => ?_) (fun c13 => ?_)
  · rw [if_pos c13] at h
    refine e_iconst (v := (0 : Int32)) dX10_areTwo_25 (by decide) ?_
    obtain rfl := Option.some.inj h
    exact s_ret rfl ⟨_, rfl, nb1 (Or.inl rfl)⟩ dX10_areTwo_26
  · rw [if_neg c13] at h
    refine e_aload_n 0 dX10_areTwo_8 rfl rfl ?_
    refine e_iload_n 2 dX10_areTwo_9 rfl rfl ?_
    obtain ⟨r16, σ15, q14, h⟩ := bd_some h
    refine s_callVi [.int i2] dX10_areTwo_10 ml_RX10_320 h_a0 ⟨_, rfl, by decide⟩ rfl (v_X10_isLodger (d + 0) h_a0 q14) (Nat.le_of_ble_eq_true rfl) ?_
    refine e_if_eq 25 dX10_areTwo_13 (by decide) (fun c17 => ?_) (fun c17 => ?_)
    · rw [if_pos c17] at h
      refine e_iconst (v := (0 : Int32)) dX10_areTwo_25 (by decide) ?_
      obtain rfl := Option.some.inj h
      exact s_ret rfl ⟨_, rfl, nb1 (Or.inl rfl)⟩ dX10_areTwo_26
    · rw [if_neg c17] at h
      refine e_iload_n 1 dX10_areTwo_16 rfl rfl ?_
      refine e_iload_n 2 dX10_areTwo_17 rfl rfl ?_
      refine e_icmp_eq 25 dX10_areTwo_18 (by decide) (fun c18 => ?_) (fun c18 => ?_)
      · rw [if_pos c18] at h
        refine e_iconst (v := (0 : Int32)) dX10_areTwo_25 (by decide) ?_
        obtain rfl := Option.some.inj h
        exact s_ret rfl ⟨_, rfl, nb1 (Or.inl rfl)⟩ dX10_areTwo_26
      · rw [if_neg c18] at h
        refine e_iconst (v := (1 : Int32)) dX10_areTwo_21 (by decide) ?_
        refine e_goto 26 dX10_areTwo_22 (by decide) ?_
        obtain rfl := Option.some.inj h
        exact s_ret rfl ⟨_, rfl, nb1 (Or.inr rfl)⟩ dX10_areTwo_26
abbrev yy_X10_dear : mm_Y := (yX10_dear, cX10_dear, 3, (some .int))
theorem dX10_dear_0 : decode cX10_dear 0 = .ok (.aload_n 0, 1) := by decide +kernel
theorem dX10_dear_1 : decode cX10_dear 1 = .ok (.iload_n 1, 1) := by decide +kernel
theorem dX10_dear_2 : decode cX10_dear 2 = .ok (.iload_n 2, 1) := by decide +kernel
theorem dX10_dear_3 : decode cX10_dear 3 = .ok (.invokevirtual 325, 3) := by decide +kernel
theorem dX10_dear_6 : decode cX10_dear 6 = .ok (.ifCond .eq 20, 3) := by decide +kernel
theorem dX10_dear_9 : decode cX10_dear 9 = .ok (.aload_n 0, 1) := by decide +kernel
theorem dX10_dear_10 : decode cX10_dear 10 = .ok (.getfield 39, 3) := by decide +kernel
theorem dX10_dear_13 : decode cX10_dear 13 = .ok (.bipush 53, 2) := by decide +kernel
theorem dX10_dear_15 : decode cX10_dear 15 = .ok (.bipush 6, 2) := by decide +kernel
theorem dX10_dear_17 : decode cX10_dear 17 = .ok (.iload_n 1, 1) := by decide +kernel
theorem dX10_dear_18 : decode cX10_dear 18 = .ok (.imul, 1) := by decide +kernel
theorem dX10_dear_19 : decode cX10_dear 19 = .ok (.iadd, 1) := by decide +kernel
theorem dX10_dear_20 : decode cX10_dear 20 = .ok (.iload_n 2, 1) := by decide +kernel
theorem dX10_dear_21 : decode cX10_dear 21 = .ok (.iadd, 1) := by decide +kernel
theorem dX10_dear_22 : decode cX10_dear 22 = .ok (.iaload, 1) := by decide +kernel
theorem dX10_dear_23 : decode cX10_dear 23 = .ok (.goto 4, 3) := by decide +kernel
theorem dX10_dear_26 : decode cX10_dear 26 = .ok (.iconst (-1), 1) := by decide +kernel
theorem dX10_dear_27 : decode cX10_dear 27 = .ok (.ireturn, 1) := by decide +kernel
def f_X10_dear (a0 : Nat) (i1 : Int32) (i2 : Int32) (σ : mm_S) : Option (Int32 × mm_S) :=
    bd (f_X10_areTwo a0 i1 i2 σ) fun r8 σ7 =>
    if r8 = 0 then
      some ((-1 : Int32), σ7)
    else
      gd (((53 : Int32) + ((6 : Int32) * i1)) + i2) 121 <|
      some ((σ7.1 224 (((53 : Int32) + ((6 : Int32) * i1)) + i2).toNatClampNeg), σ7)
theorem v_X10_dear {g : mm_G} (d : Nat) {a0 : Nat} {i1 : Int32} {i2 : Int32} {σ : mm_S} {res : Int32 × mm_S} (h_a0 : (mm_K a0).1 = 10) (h : f_X10_dear a0 i1 i2 σ = some res) : SM g (d + 2) yy_X10_dear [.ref a0, .int i1, .int i2] σ (.int res.1) res.2 := by
  refine s_of (by decide) (Nat.le_of_ble_eq_true rfl) (L := [(0, .ref a0), (1, .int i1), (2, .int i2)]) rfl ?_
  unfold f_X10_dear at h
  refine e_aload_n 0 dX10_dear_0 rfl rfl ?_
  refine e_iload_n 1 dX10_dear_1 rfl rfl ?_
  refine e_iload_n 2 dX10_dear_2 rfl rfl ?_
  obtain ⟨r8, σ7, q6, h⟩ := bd_some h
  refine s_callVi [.int i1, .int i2] dX10_dear_3 ml_RX10_325 h_a0 ⟨_, rfl, by decide⟩ rfl (v_X10_areTwo (d + 0) h_a0 q6) (Nat.le_of_ble_eq_true rfl) ?_
  refine e_if_eq 26 dX10_dear_6 (by decide) (fun c9 => ?_) (fun c9 => ?_)
  · rw [if_pos c9] at h
    refine e_iconst (v := (-1 : Int32)) dX10_dear_26 (by decide) ?_
    obtain rfl := Option.some.inj h
    exact s_ret rfl ⟨_, rfl, rfl⟩ dX10_dear_27
  · rw [if_neg c9] at h
    refine e_aload_n 0 dX10_dear_9 rfl rfl ?_
    refine s_getr dX10_dear_10 fl_RX10_39 h_a0 (r_10_20 h_a0).1 ?_
    refine e_bipush (v := (53 : Int32)) dX10_dear_13 (by decide) ?_
    refine e_bipush (v := (6 : Int32)) dX10_dear_15 (by decide) ?_
    refine e_iload_n 1 dX10_dear_17 rfl rfl ?_
    refine e_imul dX10_dear_18 ?_
    refine e_iadd dX10_dear_19 ?_
    refine e_iload_n 2 dX10_dear_20 rfl rfl ?_
    refine e_iadd dX10_dear_21 ?_
    obtain ⟨q10, h⟩ := gd_some h
    refine s_iald dX10_dear_22 (r_10_20 (w := 0) h_a0).2 q10 ?_
    refine e_goto 27 dX10_dear_23 (by decide) ?_
    obtain rfl := Option.some.inj h
    exact s_ret rfl ⟨_, rfl, rfl⟩ dX10_dear_27
abbrev yy_X10_summedBy : mm_Y := (yX10_summedBy, cX10_summedBy, 4, (some .long))
theorem dX10_summedBy_0 : decode cX10_summedBy 0 = .ok (.iconst 0, 1) := by decide +kernel
theorem dX10_summedBy_1 : decode cX10_summedBy 1 = .ok (.istore_n 2, 1) := by decide +kernel
theorem dX10_summedBy_2 : decode cX10_summedBy 2 = .ok (.iload_n 2, 1) := by decide +kernel
theorem dX10_summedBy_3 : decode cX10_summedBy 3 = .ok (.aload_n 0, 1) := by decide +kernel
theorem dX10_summedBy_4 : decode cX10_summedBy 4 = .ok (.getfield 23, 3) := by decide +kernel
theorem dX10_summedBy_7 : decode cX10_summedBy 7 = .ok (.iload_n 1, 1) := by decide +kernel
theorem dX10_summedBy_8 : decode cX10_summedBy 8 = .ok (.iaload, 1) := by decide +kernel
theorem dX10_summedBy_9 : decode cX10_summedBy 9 = .ok (.if_icmp .ge 75, 3) := by decide +kernel
theorem dX10_summedBy_12 : decode cX10_summedBy 12 = .ok (.bipush 48, 2) := by decide +kernel
theorem dX10_summedBy_14 : decode cX10_summedBy 14 = .ok (.iload_n 1, 1) := by decide +kernel
theorem dX10_summedBy_15 : decode cX10_summedBy 15 = .ok (.imul, 1) := by decide +kernel
theorem dX10_summedBy_16 : decode cX10_summedBy 16 = .ok (.iconst 4, 1) := by decide +kernel
theorem dX10_summedBy_17 : decode cX10_summedBy 17 = .ok (.iload_n 2, 1) := by decide +kernel
theorem dX10_summedBy_18 : decode cX10_summedBy 18 = .ok (.imul, 1) := by decide +kernel
theorem dX10_summedBy_19 : decode cX10_summedBy 19 = .ok (.iadd, 1) := by decide +kernel
theorem dX10_summedBy_20 : decode cX10_summedBy 20 = .ok (.istore_n 3, 1) := by decide +kernel
theorem dX10_summedBy_21 : decode cX10_summedBy 21 = .ok (.aload_n 0, 1) := by decide +kernel
theorem dX10_summedBy_22 : decode cX10_summedBy 22 = .ok (.getfield 20, 3) := by decide +kernel
theorem dX10_summedBy_25 : decode cX10_summedBy 25 = .ok (.iload_n 3, 1) := by decide +kernel
theorem dX10_summedBy_26 : decode cX10_summedBy 26 = .ok (.iconst 2, 1) := by decide +kernel
theorem dX10_summedBy_27 : decode cX10_summedBy 27 = .ok (.iadd, 1) := by decide +kernel
theorem dX10_summedBy_28 : decode cX10_summedBy 28 = .ok (.iaload, 1) := by decide +kernel
theorem dX10_summedBy_29 : decode cX10_summedBy 29 = .ok (.ifCond .lt 29, 3) := by decide +kernel
theorem dX10_summedBy_32 : decode cX10_summedBy 32 = .ok (.aload_n 0, 1) := by decide +kernel
theorem dX10_summedBy_33 : decode cX10_summedBy 33 = .ok (.iload_n 1, 1) := by decide +kernel
theorem dX10_summedBy_34 : decode cX10_summedBy 34 = .ok (.aload_n 0, 1) := by decide +kernel
theorem dX10_summedBy_35 : decode cX10_summedBy 35 = .ok (.getfield 20, 3) := by decide +kernel
theorem dX10_summedBy_38 : decode cX10_summedBy 38 = .ok (.iload_n 3, 1) := by decide +kernel
theorem dX10_summedBy_39 : decode cX10_summedBy 39 = .ok (.iconst 2, 1) := by decide +kernel
theorem dX10_summedBy_40 : decode cX10_summedBy 40 = .ok (.iadd, 1) := by decide +kernel
theorem dX10_summedBy_41 : decode cX10_summedBy 41 = .ok (.iaload, 1) := by decide +kernel
theorem dX10_summedBy_42 : decode cX10_summedBy 42 = .ok (.aload_n 0, 1) := by decide +kernel
theorem dX10_summedBy_43 : decode cX10_summedBy 43 = .ok (.getfield 20, 3) := by decide +kernel
theorem dX10_summedBy_46 : decode cX10_summedBy 46 = .ok (.iload_n 3, 1) := by decide +kernel
theorem dX10_summedBy_47 : decode cX10_summedBy 47 = .ok (.iconst 3, 1) := by decide +kernel
theorem dX10_summedBy_48 : decode cX10_summedBy 48 = .ok (.iadd, 1) := by decide +kernel
theorem dX10_summedBy_49 : decode cX10_summedBy 49 = .ok (.iaload, 1) := by decide +kernel
theorem dX10_summedBy_50 : decode cX10_summedBy 50 = .ok (.invokevirtual 328, 3) := by decide +kernel
theorem dX10_summedBy_53 : decode cX10_summedBy 53 = .ok (.lconst 1, 1) := by decide +kernel
theorem dX10_summedBy_54 : decode cX10_summedBy 54 = .ok (.lcmp, 1) := by decide +kernel
theorem dX10_summedBy_55 : decode cX10_summedBy 55 = .ok (.ifCond .ne 23, 3) := by decide +kernel
theorem dX10_summedBy_58 : decode cX10_summedBy 58 = .ok (.aload_n 0, 1) := by decide +kernel
theorem dX10_summedBy_59 : decode cX10_summedBy 59 = .ok (.iload_n 1, 1) := by decide +kernel
theorem dX10_summedBy_60 : decode cX10_summedBy 60 = .ok (.aload_n 0, 1) := by decide +kernel
theorem dX10_summedBy_61 : decode cX10_summedBy 61 = .ok (.getfield 20, 3) := by decide +kernel
theorem dX10_summedBy_64 : decode cX10_summedBy 64 = .ok (.iload_n 3, 1) := by decide +kernel
theorem dX10_summedBy_65 : decode cX10_summedBy 65 = .ok (.iaload, 1) := by decide +kernel
theorem dX10_summedBy_66 : decode cX10_summedBy 66 = .ok (.aload_n 0, 1) := by decide +kernel
theorem dX10_summedBy_67 : decode cX10_summedBy 67 = .ok (.getfield 20, 3) := by decide +kernel
theorem dX10_summedBy_70 : decode cX10_summedBy 70 = .ok (.iload_n 3, 1) := by decide +kernel
theorem dX10_summedBy_71 : decode cX10_summedBy 71 = .ok (.iconst 1, 1) := by decide +kernel
theorem dX10_summedBy_72 : decode cX10_summedBy 72 = .ok (.iadd, 1) := by decide +kernel
theorem dX10_summedBy_73 : decode cX10_summedBy 73 = .ok (.iaload, 1) := by decide +kernel
theorem dX10_summedBy_74 : decode cX10_summedBy 74 = .ok (.invokevirtual 328, 3) := by decide +kernel
theorem dX10_summedBy_77 : decode cX10_summedBy 77 = .ok (.lreturn, 1) := by decide +kernel
theorem dX10_summedBy_78 : decode cX10_summedBy 78 = .ok (.iinc 2 1, 3) := by decide +kernel
theorem dX10_summedBy_81 : decode cX10_summedBy 81 = .ok (.goto (-79), 3) := by decide +kernel
theorem dX10_summedBy_84 : decode cX10_summedBy 84 = .ok (.lconst 0, 1) := by decide +kernel
theorem dX10_summedBy_85 : decode cX10_summedBy 85 = .ok (.lreturn, 1) := by decide +kernel
def f_X10_summedBy_58 (a0 : Nat) (i1 : Int32) (i3 : Int32) (σ : mm_S) : Option (Int64 × mm_S) :=
    gd i3 288 <|
    gd (i3 + (1 : Int32)) 288 <|
    bd (f_X10_reckons a0 i1 (σ.1 218 i3.toNatClampNeg) (σ.1 218 (i3 + (1 : Int32)).toNatClampNeg) σ) fun r5 σ4 =>
    some (r5, σ4)
theorem v_X10_summedBy_58 {g : mm_G} (d : Nat) {a0 : Nat} {i1 : Int32} {i3 : Int32} {σ : mm_S} {res : Int64 × mm_S}  (h_a0 : (mm_K a0).1 = 10) (h : f_X10_summedBy_58 a0 i1 i3 σ = some res) : SV g (d + 2) yy_X10_summedBy 58 [(0, .ref a0), (1, .int i1), (3, .int i3)] [] σ (.long res.1) res.2 := by
  unfold f_X10_summedBy_58 at h
  refine e_aload_n 0 dX10_summedBy_58 rfl rfl ?_
  refine e_iload_n 1 dX10_summedBy_59 rfl rfl ?_
  refine e_aload_n 0 dX10_summedBy_60 rfl rfl ?_
  refine s_getr dX10_summedBy_61 fl_RX10_20 h_a0 (r_10_5 h_a0).1 ?_
  refine e_iload_n 2 dX10_summedBy_64 rfl rfl ?_
  obtain ⟨q1, h⟩ := gd_some h
  refine s_iald dX10_summedBy_65 (r_10_5 (w := 0) h_a0).2 q1 ?_
  refine e_aload_n 0 dX10_summedBy_66 rfl rfl ?_
  refine s_getr dX10_summedBy_67 fl_RX10_20 h_a0 (r_10_5 h_a0).1 ?_
  refine e_iload_n 2 dX10_summedBy_70 rfl rfl ?_
  refine e_iconst (v := (1 : Int32)) dX10_summedBy_71 (by decide) ?_
  refine e_iadd dX10_summedBy_72 ?_
  obtain ⟨q2, h⟩ := gd_some h
  refine s_iald dX10_summedBy_73 (r_10_5 (w := 0) h_a0).2 q2 ?_
  obtain ⟨r5, σ4, q3, h⟩ := bd_some h
  refine s_callVl [.int i1, .int (σ.1 218 i3.toNatClampNeg), .int (σ.1 218 (i3 + (1 : Int32)).toNatClampNeg)] dX10_summedBy_74 ml_RX10_328 h_a0 rfl rfl (v_X10_reckons (d + 0) h_a0 q3) (Nat.le_of_ble_eq_true rfl) ?_
  obtain rfl := Option.some.inj h
  exact s_ret rfl ⟨_, rfl⟩ dX10_summedBy_77
def f_X10_summedBy_2 (a0 : Nat) (i1 : Int32) (i2 : Int32) (σ : mm_S) : Option (Int64 × mm_S) :=
  lp lpN (fun (k2 : (Int32) → mm_S → Option (Int64 × mm_S)) (v : Int32) (σ : mm_S) =>
    gd i1 6 <|
    if (σ.1 219 i1.toNatClampNeg) ≤ v then
      some ((0 : Int64), σ)
    else
      lt ((((48 : Int32) * i1) + ((4 : Int32) * v))) fun x8 =>
      gd (x8 + (2 : Int32)) 288 <|
      if (σ.1 218 (x8 + (2 : Int32)).toNatClampNeg) < 0 then
        f_X10_summedBy_58 a0 i1 x8 σ
      else
        gd (x8 + (2 : Int32)) 288 <|
        gd (x8 + (3 : Int32)) 288 <|
        bd (f_X10_reckons a0 i1 (σ.1 218 (x8 + (2 : Int32)).toNatClampNeg) (σ.1 218 (x8 + (3 : Int32)).toNatClampNeg) σ) fun r16 σ15 =>
        if (lg_cmp r16 (1 : Int64)) = 0 then
          f_X10_summedBy_58 a0 i1 x8 σ15
        else
          lt (v + Int32.ofInt (1)) fun x18 =>
          k2 x18 σ15) i2 σ
theorem v_X10_summedBy_2 {g : mm_G} (d : Nat) {a0 : Nat} {i1 : Int32} {i2 : Int32} {σ : mm_S} {res : Int64 × mm_S}  (h_a0 : (mm_K a0).1 = 10) (h : f_X10_summedBy_2 a0 i1 i2 σ = some res) : SV g (d + 2) yy_X10_summedBy 2 [(0, .ref a0), (1, .int i1), (2, .int i2)] [] σ (.long res.1) res.2 := by
  unfold f_X10_summedBy_2 at h
  refine lp_ind (P := fun v σ => SV g (d + 2) yy_X10_summedBy 2 [(0, .ref a0), (1, .int i1), (2, .int v)] [] σ (.long res.1) res.2) (fun k2 H2 v σ h => ?_) _ i2 σ h
  refine e_iload_n 2 dX10_summedBy_2 rfl rfl ?_
  refine e_aload_n 0 dX10_summedBy_3 rfl rfl ?_
  refine s_getr dX10_summedBy_4 fl_RX10_23 h_a0 (r_10_6 h_a0).1 ?_
  refine e_iload_n 1 dX10_summedBy_7 rfl rfl ?_
  obtain ⟨q6, h⟩ := gd_some h
  refine s_iald dX10_summedBy_8 (r_10_6 (w := 0) h_a0).2 q6 ?_
  refine e_icmp_ge 84 dX10_summedBy_9 (by decide) (fun c7 => ?_) (fun c7 => ?_)
  · rw [if_pos c7] at h
    refine e_lconst (v := (0 : Int64)) dX10_summedBy_84 (by decide) ?_
    obtain rfl := Option.some.inj h
    exact s_ret rfl ⟨_, rfl⟩ dX10_summedBy_85
  · rw [if_neg c7] at h
    refine e_bipush (v := (48 : Int32)) dX10_summedBy_12 (by decide) ?_
    refine e_iload_n 1 dX10_summedBy_14 rfl rfl ?_
    refine e_imul dX10_summedBy_15 ?_
    refine e_iconst (v := (4 : Int32)) dX10_summedBy_16 (by decide) ?_
    refine e_iload_n 2 dX10_summedBy_17 rfl rfl ?_
    refine e_imul dX10_summedBy_18 ?_
    refine e_iadd dX10_summedBy_19 ?_
    obtain ⟨x8, q9, h⟩ := lt_some h
    refine s_nmi q9 ?_
    refine e_istore_n (L' := [(0, .ref a0), (1, .int i1), (2, .int v), (3, .int x8)]) dX10_summedBy_20 rfl (by decide) rfl ?_
    refine e_aload_n 0 dX10_summedBy_21 rfl rfl ?_
    refine s_getr dX10_summedBy_22 fl_RX10_20 h_a0 (r_10_5 h_a0).1 ?_
    refine e_iload_n 3 dX10_summedBy_25 rfl rfl ?_
    refine e_iconst (v := (2 : Int32)) dX10_summedBy_26 (by decide) ?_
    refine e_iadd dX10_summedBy_27 ?_
    obtain ⟨q10, h⟩ := gd_some h
    refine s_iald dX10_summedBy_28 (r_10_5 (w := 0) h_a0).2 q10 ?_
    refine e_if_lt 58 dX10_summedBy_29 (by decide) (fun c11 => ?_) (fun c11 => ?_)
    · rw [if_pos c11] at h
      refine s_pick (L' := [(0, .ref a0), (1, .int i1), (3, .int x8)]) [0, 1, 3] rfl ?_
      exact v_X10_summedBy_58 d h_a0 h
    · rw [if_neg c11] at h
      refine e_aload_n 0 dX10_summedBy_32 rfl rfl ?_
      refine e_iload_n 1 dX10_summedBy_33 rfl rfl ?_
      refine e_aload_n 0 dX10_summedBy_34 rfl rfl ?_
      refine s_getr dX10_summedBy_35 fl_RX10_20 h_a0 (r_10_5 h_a0).1 ?_
      refine e_iload_n 3 dX10_summedBy_38 rfl rfl ?_
      refine e_iconst (v := (2 : Int32)) dX10_summedBy_39 (by decide) ?_
      refine e_iadd dX10_summedBy_40 ?_
      obtain ⟨q12, h⟩ := gd_some h
      refine s_iald dX10_summedBy_41 (r_10_5 (w := 0) h_a0).2 q12 ?_
      refine e_aload_n 0 dX10_summedBy_42 rfl rfl ?_
      refine s_getr dX10_summedBy_43 fl_RX10_20 h_a0 (r_10_5 h_a0).1 ?_
      refine e_iload_n 3 dX10_summedBy_46 rfl rfl ?_
      refine e_iconst (v := (3 : Int32)) dX10_summedBy_47 (by decide) ?_
      refine e_iadd dX10_summedBy_48 ?_
      obtain ⟨q13, h⟩ := gd_some h
      refine s_iald dX10_summedBy_49 (r_10_5 (w := 0) h_a0).2 q13 ?_
      obtain ⟨r16, σ15, q14, h⟩ := bd_some h
      refine s_callVl [.int i1, .int (σ.1 218 (x8 + (2 : Int32)).toNatClampNeg), .int (σ.1 218 (x8 + (3 : Int32)).toNatClampNeg)] dX10_summedBy_50 ml_RX10_328 h_a0 rfl rfl (v_X10_reckons (d + 0) h_a0 q14) (Nat.le_of_ble_eq_true rfl) ?_
      refine e_lconst (v := (1 : Int64)) dX10_summedBy_53 (by decide) ?_
      refine e_lcmp dX10_summedBy_54 ?_
      refine e_if_ne 78 dX10_summedBy_55 (by decide) (fun c17 => ?_) (fun c17 => ?_)
      · rw [if_neg c17] at h
        obtain ⟨x18, q19, h⟩ := lt_some h
        refine e_iinc (v := x18) (L' := [(0, .ref a0), (1, .int i1), (2, .int x18), (3, .int x8)]) 2 dX10_summedBy_78 rfl q19.symm (by decide) rfl ?_
        refine e_goto 2 dX10_summedBy_81 (by decide) ?_
        refine s_pick (L' := [(0, .ref a0), (1, .int i1), (2, .int x18)]) [0, 1, 2] rfl ?_
        exact H2 x18 σ15 h
      · rw [if_pos c17] at h
        refine s_pick (L' := [(0, .ref a0), (1, .int i1), (3, .int x8)]) [0, 1, 3] rfl ?_
        exact v_X10_summedBy_58 d h_a0 h
def f_X10_summedBy (a0 : Nat) (i1 : Int32) (σ : mm_S) : Option (Int64 × mm_S) :=
    f_X10_summedBy_2 a0 i1 (0 : Int32) σ
theorem v_X10_summedBy {g : mm_G} (d : Nat) {a0 : Nat} {i1 : Int32} {σ : mm_S} {res : Int64 × mm_S} (h_a0 : (mm_K a0).1 = 10) (h : f_X10_summedBy a0 i1 σ = some res) : SM g (d + 2) yy_X10_summedBy [.ref a0, .int i1] σ (.long res.1) res.2 := by
  refine s_of (by decide) (Nat.le_of_ble_eq_true rfl) (L := [(0, .ref a0), (1, .int i1)]) rfl ?_
  unfold f_X10_summedBy at h
  refine e_iconst (v := (0 : Int32)) dX10_summedBy_0 (by decide) ?_
  refine e_istore_n (L' := [(0, .ref a0), (1, .int i1), (2, .int (0 : Int32))]) dX10_summedBy_1 rfl (by decide) rfl ?_
  refine s_pick (L' := [(0, .ref a0), (1, .int i1), (2, .int (0 : Int32))]) [0, 1, 2] rfl ?_
  exact v_X10_summedBy_2 d h_a0 h
abbrev yy_X10_sumOf : mm_Y := (yX10_sumOf, cX10_sumOf, 3, (some .long))
theorem dX10_sumOf_0 : decode cX10_sumOf 0 = .ok (.aload_n 0, 1) := by decide +kernel
theorem dX10_sumOf_1 : decode cX10_sumOf 1 = .ok (.getfield 42, 3) := by decide +kernel
theorem dX10_sumOf_4 : decode cX10_sumOf 4 = .ok (.ifCond .ge 10, 3) := by decide +kernel
theorem dX10_sumOf_7 : decode cX10_sumOf 7 = .ok (.aload_n 0, 1) := by decide +kernel
theorem dX10_sumOf_8 : decode cX10_sumOf 8 = .ok (.iload_n 2, 1) := by decide +kernel
theorem dX10_sumOf_9 : decode cX10_sumOf 9 = .ok (.invokevirtual 308, 3) := by decide +kernel
theorem dX10_sumOf_12 : decode cX10_sumOf 12 = .ok (.i2l, 1) := by decide +kernel
theorem dX10_sumOf_13 : decode cX10_sumOf 13 = .ok (.lreturn, 1) := by decide +kernel
theorem dX10_sumOf_14 : decode cX10_sumOf 14 = .ok (.aload_n 0, 1) := by decide +kernel
theorem dX10_sumOf_15 : decode cX10_sumOf 15 = .ok (.getfield 36, 3) := by decide +kernel
theorem dX10_sumOf_18 : decode cX10_sumOf 18 = .ok (.iconst 0, 1) := by decide +kernel
theorem dX10_sumOf_19 : decode cX10_sumOf 19 = .ok (.iload_n 1, 1) := by decide +kernel
theorem dX10_sumOf_20 : decode cX10_sumOf 20 = .ok (.i2l, 1) := by decide +kernel
theorem dX10_sumOf_21 : decode cX10_sumOf 21 = .ok (.lastore, 1) := by decide +kernel
theorem dX10_sumOf_22 : decode cX10_sumOf 22 = .ok (.aload_n 0, 1) := by decide +kernel
theorem dX10_sumOf_23 : decode cX10_sumOf 23 = .ok (.getfield 36, 3) := by decide +kernel
theorem dX10_sumOf_26 : decode cX10_sumOf 26 = .ok (.iconst 1, 1) := by decide +kernel
theorem dX10_sumOf_27 : decode cX10_sumOf 27 = .ok (.iload_n 2, 1) := by decide +kernel
theorem dX10_sumOf_28 : decode cX10_sumOf 28 = .ok (.i2l, 1) := by decide +kernel
theorem dX10_sumOf_29 : decode cX10_sumOf 29 = .ok (.lastore, 1) := by decide +kernel
theorem dX10_sumOf_30 : decode cX10_sumOf 30 = .ok (.aload_n 0, 1) := by decide +kernel
theorem dX10_sumOf_31 : decode cX10_sumOf 31 = .ok (.getfield 36, 3) := by decide +kernel
theorem dX10_sumOf_34 : decode cX10_sumOf 34 = .ok (.iconst 2, 1) := by decide +kernel
theorem dX10_sumOf_35 : decode cX10_sumOf 35 = .ok (.aload_n 0, 1) := by decide +kernel
theorem dX10_sumOf_36 : decode cX10_sumOf 36 = .ok (.iload_n 1, 1) := by decide +kernel
theorem dX10_sumOf_37 : decode cX10_sumOf 37 = .ok (.invokevirtual 308, 3) := by decide +kernel
theorem dX10_sumOf_40 : decode cX10_sumOf 40 = .ok (.i2l, 1) := by decide +kernel
theorem dX10_sumOf_41 : decode cX10_sumOf 41 = .ok (.lastore, 1) := by decide +kernel
theorem dX10_sumOf_42 : decode cX10_sumOf 42 = .ok (.aload_n 0, 1) := by decide +kernel
theorem dX10_sumOf_43 : decode cX10_sumOf 43 = .ok (.getfield 36, 3) := by decide +kernel
theorem dX10_sumOf_46 : decode cX10_sumOf 46 = .ok (.iconst 3, 1) := by decide +kernel
theorem dX10_sumOf_47 : decode cX10_sumOf 47 = .ok (.aload_n 0, 1) := by decide +kernel
theorem dX10_sumOf_48 : decode cX10_sumOf 48 = .ok (.iload_n 2, 1) := by decide +kernel
theorem dX10_sumOf_49 : decode cX10_sumOf 49 = .ok (.invokevirtual 308, 3) := by decide +kernel
theorem dX10_sumOf_52 : decode cX10_sumOf 52 = .ok (.i2l, 1) := by decide +kernel
theorem dX10_sumOf_53 : decode cX10_sumOf 53 = .ok (.lastore, 1) := by decide +kernel
theorem dX10_sumOf_54 : decode cX10_sumOf 54 = .ok (.aload_n 0, 1) := by decide +kernel
theorem dX10_sumOf_55 : decode cX10_sumOf 55 = .ok (.getfield 36, 3) := by decide +kernel
theorem dX10_sumOf_58 : decode cX10_sumOf 58 = .ok (.iconst 4, 1) := by decide +kernel
theorem dX10_sumOf_59 : decode cX10_sumOf 59 = .ok (.aload_n 0, 1) := by decide +kernel
theorem dX10_sumOf_60 : decode cX10_sumOf 60 = .ok (.iload_n 1, 1) := by decide +kernel
theorem dX10_sumOf_61 : decode cX10_sumOf 61 = .ok (.invokevirtual 332, 3) := by decide +kernel
theorem dX10_sumOf_64 : decode cX10_sumOf 64 = .ok (.i2l, 1) := by decide +kernel
theorem dX10_sumOf_65 : decode cX10_sumOf 65 = .ok (.lastore, 1) := by decide +kernel
theorem dX10_sumOf_66 : decode cX10_sumOf 66 = .ok (.aload_n 0, 1) := by decide +kernel
theorem dX10_sumOf_67 : decode cX10_sumOf 67 = .ok (.getfield 36, 3) := by decide +kernel
theorem dX10_sumOf_70 : decode cX10_sumOf 70 = .ok (.iconst 5, 1) := by decide +kernel
theorem dX10_sumOf_71 : decode cX10_sumOf 71 = .ok (.aload_n 0, 1) := by decide +kernel
theorem dX10_sumOf_72 : decode cX10_sumOf 72 = .ok (.iload_n 2, 1) := by decide +kernel
theorem dX10_sumOf_73 : decode cX10_sumOf 73 = .ok (.invokevirtual 332, 3) := by decide +kernel
theorem dX10_sumOf_76 : decode cX10_sumOf 76 = .ok (.i2l, 1) := by decide +kernel
theorem dX10_sumOf_77 : decode cX10_sumOf 77 = .ok (.lastore, 1) := by decide +kernel
theorem dX10_sumOf_78 : decode cX10_sumOf 78 = .ok (.aload_n 0, 1) := by decide +kernel
theorem dX10_sumOf_79 : decode cX10_sumOf 79 = .ok (.getfield 36, 3) := by decide +kernel
theorem dX10_sumOf_82 : decode cX10_sumOf 82 = .ok (.bipush 6, 2) := by decide +kernel
theorem dX10_sumOf_84 : decode cX10_sumOf 84 = .ok (.aload_n 0, 1) := by decide +kernel
theorem dX10_sumOf_85 : decode cX10_sumOf 85 = .ok (.getfield 39, 3) := by decide +kernel
theorem dX10_sumOf_88 : decode cX10_sumOf 88 = .ok (.bipush 53, 2) := by decide +kernel
theorem dX10_sumOf_90 : decode cX10_sumOf 90 = .ok (.bipush 6, 2) := by decide +kernel
theorem dX10_sumOf_92 : decode cX10_sumOf 92 = .ok (.iload_n 1, 1) := by decide +kernel
theorem dX10_sumOf_93 : decode cX10_sumOf 93 = .ok (.imul, 1) := by decide +kernel
theorem dX10_sumOf_94 : decode cX10_sumOf 94 = .ok (.iadd, 1) := by decide +kernel
theorem dX10_sumOf_95 : decode cX10_sumOf 95 = .ok (.iload_n 2, 1) := by decide +kernel
theorem dX10_sumOf_96 : decode cX10_sumOf 96 = .ok (.iadd, 1) := by decide +kernel
theorem dX10_sumOf_97 : decode cX10_sumOf 97 = .ok (.iaload, 1) := by decide +kernel
theorem dX10_sumOf_98 : decode cX10_sumOf 98 = .ok (.i2l, 1) := by decide +kernel
theorem dX10_sumOf_99 : decode cX10_sumOf 99 = .ok (.lastore, 1) := by decide +kernel
theorem dX10_sumOf_100 : decode cX10_sumOf 100 = .ok (.aload_n 0, 1) := by decide +kernel
theorem dX10_sumOf_101 : decode cX10_sumOf 101 = .ok (.getfield 36, 3) := by decide +kernel
theorem dX10_sumOf_104 : decode cX10_sumOf 104 = .ok (.bipush 7, 2) := by decide +kernel
theorem dX10_sumOf_106 : decode cX10_sumOf 106 = .ok (.aload_n 0, 1) := by decide +kernel
theorem dX10_sumOf_107 : decode cX10_sumOf 107 = .ok (.getfield 55, 3) := by decide +kernel
theorem dX10_sumOf_110 : decode cX10_sumOf 110 = .ok (.iload_n 2, 1) := by decide +kernel
theorem dX10_sumOf_111 : decode cX10_sumOf 111 = .ok (.iaload, 1) := by decide +kernel
theorem dX10_sumOf_112 : decode cX10_sumOf 112 = .ok (.iload_n 1, 1) := by decide +kernel
theorem dX10_sumOf_113 : decode cX10_sumOf 113 = .ok (.if_icmp .ne 7, 3) := by decide +kernel
theorem dX10_sumOf_116 : decode cX10_sumOf 116 = .ok (.lconst 1, 1) := by decide +kernel
theorem dX10_sumOf_117 : decode cX10_sumOf 117 = .ok (.goto 4, 3) := by decide +kernel
theorem dX10_sumOf_120 : decode cX10_sumOf 120 = .ok (.lconst 0, 1) := by decide +kernel
theorem dX10_sumOf_121 : decode cX10_sumOf 121 = .ok (.lastore, 1) := by decide +kernel
theorem dX10_sumOf_122 : decode cX10_sumOf 122 = .ok (.aload_n 0, 1) := by decide +kernel
theorem dX10_sumOf_123 : decode cX10_sumOf 123 = .ok (.getfield 36, 3) := by decide +kernel
theorem dX10_sumOf_126 : decode cX10_sumOf 126 = .ok (.bipush 8, 2) := by decide +kernel
theorem dX10_sumOf_128 : decode cX10_sumOf 128 = .ok (.aload_n 0, 1) := by decide +kernel
theorem dX10_sumOf_129 : decode cX10_sumOf 129 = .ok (.getfield 58, 3) := by decide +kernel
theorem dX10_sumOf_132 : decode cX10_sumOf 132 = .ok (.iload_n 2, 1) := by decide +kernel
theorem dX10_sumOf_133 : decode cX10_sumOf 133 = .ok (.iaload, 1) := by decide +kernel
theorem dX10_sumOf_134 : decode cX10_sumOf 134 = .ok (.i2l, 1) := by decide +kernel
theorem dX10_sumOf_135 : decode cX10_sumOf 135 = .ok (.lastore, 1) := by decide +kernel
theorem dX10_sumOf_136 : decode cX10_sumOf 136 = .ok (.aload_n 0, 1) := by decide +kernel
theorem dX10_sumOf_137 : decode cX10_sumOf 137 = .ok (.getfield 36, 3) := by decide +kernel
theorem dX10_sumOf_140 : decode cX10_sumOf 140 = .ok (.bipush 9, 2) := by decide +kernel
theorem dX10_sumOf_142 : decode cX10_sumOf 142 = .ok (.aload_n 0, 1) := by decide +kernel
theorem dX10_sumOf_143 : decode cX10_sumOf 143 = .ok (.invokevirtual 335, 3) := by decide +kernel
theorem dX10_sumOf_146 : decode cX10_sumOf 146 = .ok (.invokestatic 338, 3) := by decide +kernel
theorem dX10_sumOf_149 : decode cX10_sumOf 149 = .ok (.i2l, 1) := by decide +kernel
theorem dX10_sumOf_150 : decode cX10_sumOf 150 = .ok (.lastore, 1) := by decide +kernel
theorem dX10_sumOf_151 : decode cX10_sumOf 151 = .ok (.aload_n 0, 1) := by decide +kernel
theorem dX10_sumOf_152 : decode cX10_sumOf 152 = .ok (.getfield 36, 3) := by decide +kernel
theorem dX10_sumOf_155 : decode cX10_sumOf 155 = .ok (.bipush 10, 2) := by decide +kernel
theorem dX10_sumOf_157 : decode cX10_sumOf 157 = .ok (.aload_n 0, 1) := by decide +kernel
theorem dX10_sumOf_158 : decode cX10_sumOf 158 = .ok (.getfield 341, 3) := by decide +kernel
theorem dX10_sumOf_161 : decode cX10_sumOf 161 = .ok (.i2l, 1) := by decide +kernel
theorem dX10_sumOf_162 : decode cX10_sumOf 162 = .ok (.lastore, 1) := by decide +kernel
theorem dX10_sumOf_163 : decode cX10_sumOf 163 = .ok (.aload_n 0, 1) := by decide +kernel
theorem dX10_sumOf_164 : decode cX10_sumOf 164 = .ok (.getfield 36, 3) := by decide +kernel
theorem dX10_sumOf_167 : decode cX10_sumOf 167 = .ok (.bipush 11, 2) := by decide +kernel
theorem dX10_sumOf_169 : decode cX10_sumOf 169 = .ok (.aload_n 0, 1) := by decide +kernel
theorem dX10_sumOf_170 : decode cX10_sumOf 170 = .ok (.getfield 39, 3) := by decide +kernel
theorem dX10_sumOf_173 : decode cX10_sumOf 173 = .ok (.bipush 10, 2) := by decide +kernel
theorem dX10_sumOf_175 : decode cX10_sumOf 175 = .ok (.iaload, 1) := by decide +kernel
theorem dX10_sumOf_176 : decode cX10_sumOf 176 = .ok (.bipush 12, 2) := by decide +kernel
theorem dX10_sumOf_178 : decode cX10_sumOf 178 = .ok (.irem, 1) := by decide +kernel
theorem dX10_sumOf_179 : decode cX10_sumOf 179 = .ok (.i2l, 1) := by decide +kernel
theorem dX10_sumOf_180 : decode cX10_sumOf 180 = .ok (.lastore, 1) := by decide +kernel
theorem dX10_sumOf_181 : decode cX10_sumOf 181 = .ok (.aload_n 0, 1) := by decide +kernel
theorem dX10_sumOf_182 : decode cX10_sumOf 182 = .ok (.getfield 36, 3) := by decide +kernel
theorem dX10_sumOf_185 : decode cX10_sumOf 185 = .ok (.bipush 12, 2) := by decide +kernel
theorem dX10_sumOf_187 : decode cX10_sumOf 187 = .ok (.aload_n 0, 1) := by decide +kernel
theorem dX10_sumOf_188 : decode cX10_sumOf 188 = .ok (.getfield 39, 3) := by decide +kernel
theorem dX10_sumOf_191 : decode cX10_sumOf 191 = .ok (.bipush 10, 2) := by decide +kernel
theorem dX10_sumOf_193 : decode cX10_sumOf 193 = .ok (.iaload, 1) := by decide +kernel
theorem dX10_sumOf_194 : decode cX10_sumOf 194 = .ok (.i2l, 1) := by decide +kernel
theorem dX10_sumOf_195 : decode cX10_sumOf 195 = .ok (.lastore, 1) := by decide +kernel
theorem dX10_sumOf_196 : decode cX10_sumOf 196 = .ok (.aload_n 0, 1) := by decide +kernel
theorem dX10_sumOf_197 : decode cX10_sumOf 197 = .ok (.aload_n 0, 1) := by decide +kernel
theorem dX10_sumOf_198 : decode cX10_sumOf 198 = .ok (.getfield 42, 3) := by decide +kernel
theorem dX10_sumOf_201 : decode cX10_sumOf 201 = .ok (.invokevirtual 344, 3) := by decide +kernel
theorem dX10_sumOf_204 : decode cX10_sumOf 204 = .ok (.lreturn, 1) := by decide +kernel
def f_X10_sumOf_121 (a0 : Nat) (i2 : Int32) (s0 : Nat) (s1 : Int32) (s2 : Int64) (σ : mm_S) : Option (Int64 × mm_S) :=
    gd s1 (mm_K s0).2 <|
    lt (su_j σ s0 s1.toNatClampNeg s2) fun σ2 =>
    gd i2 6 <|
    gd (8 : Int32) 13 <|
    lt (su_j σ2 223 (8 : Int32).toNatClampNeg ((σ2.1 227 i2.toNatClampNeg) : Int32).toInt64) fun σ6 =>
    bd (f_X10_inside a0 σ6) fun r10 σ9 =>
    bd (f_X10_bits r10 σ9) fun r13 σ12 =>
    gd (9 : Int32) 13 <|
    lt (su_j σ12 223 (9 : Int32).toNatClampNeg (r13 : Int32).toInt64) fun σ15 =>
    gd (10 : Int32) 13 <|
    lt (su_j σ15 223 (10 : Int32).toNatClampNeg ((σ15.1 a0 28) : Int32).toInt64) fun σ18 =>
    gd (10 : Int32) 121 <|
    gd (11 : Int32) 13 <|
    lt (su_j σ18 223 (11 : Int32).toNatClampNeg (((σ18.1 224 (10 : Int32).toNatClampNeg) - (σ18.1 224 (10 : Int32).toNatClampNeg) / (12 : Int32) * (12 : Int32)) : Int32).toInt64) fun σ22 =>
    gd (10 : Int32) 121 <|
    gd (12 : Int32) 13 <|
    lt (su_j σ22 223 (12 : Int32).toNatClampNeg ((σ22.1 224 (10 : Int32).toNatClampNeg) : Int32).toInt64) fun σ26 =>
    bd (f_X10_summedBy a0 (σ26.1 a0 21) σ26) fun r30 σ29 =>
    some (r30, σ29)
theorem v_X10_sumOf_121 {g : mm_G} (d : Nat) {a0 : Nat} {i2 : Int32} {s0 : Nat} {s1 : Int32} {s2 : Int64} {σ : mm_S} {res : Int64 × mm_S}  (h_a0 : (mm_K a0).1 = 10) (h_s0 : (mm_K s0).1 = 13) (h : f_X10_sumOf_121 a0 i2 s0 s1 s2 σ = some res) : SV g (d + 3) yy_X10_sumOf 121 [(0, .ref a0), (2, .int i2)] [.long s2, .int s1, .ref s0] σ (.long res.1) res.2 := by
  unfold f_X10_sumOf_121 at h
  obtain ⟨q1, h⟩ := gd_some h
  refine s_last dX10_sumOf_121 (ka_2 h_s0) q1 ?_
  obtain ⟨σ2, q3, h⟩ := lt_some h
  refine s_nms q3 ?_
  refine e_aload_n 0 dX10_sumOf_122 rfl rfl ?_
  refine s_getr dX10_sumOf_123 fl_RX10_36 h_a0 (r_10_19 h_a0).1 ?_
  refine e_bipush (v := (8 : Int32)) dX10_sumOf_126 (by decide) ?_
  refine e_aload_n 0 dX10_sumOf_128 rfl rfl ?_
  refine s_getr dX10_sumOf_129 fl_RX10_58 h_a0 (r_10_29 h_a0).1 ?_
  refine e_iload_n 1 dX10_sumOf_132 rfl rfl ?_
  obtain ⟨q4, h⟩ := gd_some h
  refine s_iald dX10_sumOf_133 (r_10_29 (w := 0) h_a0).2 q4 ?_
  refine e_i2l dX10_sumOf_134 ?_
  obtain ⟨q5, h⟩ := gd_some h
  refine s_last dX10_sumOf_135 (r_10_19 (w := 0) h_a0).2 q5 ?_
  obtain ⟨σ6, q7, h⟩ := lt_some h
  refine s_nms q7 ?_
  refine e_aload_n 0 dX10_sumOf_136 rfl rfl ?_
  refine s_getr dX10_sumOf_137 fl_RX10_36 h_a0 (r_10_19 h_a0).1 ?_
  refine e_bipush (v := (9 : Int32)) dX10_sumOf_140 (by decide) ?_
  refine e_aload_n 0 dX10_sumOf_142 rfl rfl ?_
  obtain ⟨r10, σ9, q8, h⟩ := bd_some h
  refine s_callVi [] dX10_sumOf_143 ml_RX10_335 h_a0 ⟨_, rfl, by decide⟩ rfl (v_X10_inside (d + 1) h_a0 q8) (Nat.le_of_ble_eq_true rfl) ?_
  obtain ⟨r13, σ12, q11, h⟩ := bd_some h
  refine s_callSi [.int r10] dX10_sumOf_146 ml_RX10_338 ⟨_, rfl, by decide⟩ rfl (v_X10_bits (d + 2)  q11) (Nat.le_of_ble_eq_true rfl) ?_
  refine e_i2l dX10_sumOf_149 ?_
  obtain ⟨q14, h⟩ := gd_some h
  refine s_last dX10_sumOf_150 (r_10_19 (w := 0) h_a0).2 q14 ?_
  obtain ⟨σ15, q16, h⟩ := lt_some h
  refine s_nms q16 ?_
  refine e_aload_n 0 dX10_sumOf_151 rfl rfl ?_
  refine s_getr dX10_sumOf_152 fl_RX10_36 h_a0 (r_10_19 h_a0).1 ?_
  refine e_bipush (v := (10 : Int32)) dX10_sumOf_155 (by decide) ?_
  refine e_aload_n 0 dX10_sumOf_157 rfl rfl ?_
  refine s_geti dX10_sumOf_158 fl_RX10_341 h_a0 ?_
  refine e_i2l dX10_sumOf_161 ?_
  obtain ⟨q17, h⟩ := gd_some h
  refine s_last dX10_sumOf_162 (r_10_19 (w := 0) h_a0).2 q17 ?_
  obtain ⟨σ18, q19, h⟩ := lt_some h
  refine s_nms q19 ?_
  refine e_aload_n 0 dX10_sumOf_163 rfl rfl ?_
  refine s_getr dX10_sumOf_164 fl_RX10_36 h_a0 (r_10_19 h_a0).1 ?_
  refine e_bipush (v := (11 : Int32)) dX10_sumOf_167 (by decide) ?_
  refine e_aload_n 0 dX10_sumOf_169 rfl rfl ?_
  refine s_getr dX10_sumOf_170 fl_RX10_39 h_a0 (r_10_20 h_a0).1 ?_
  refine e_bipush (v := (10 : Int32)) dX10_sumOf_173 (by decide) ?_
  obtain ⟨q20, h⟩ := gd_some h
  refine s_iald dX10_sumOf_175 (r_10_20 (w := 0) h_a0).2 q20 ?_
  refine e_bipush (v := (12 : Int32)) dX10_sumOf_176 (by decide) ?_
  refine e_irem dX10_sumOf_178 (by decide) ?_
  refine e_i2l dX10_sumOf_179 ?_
  obtain ⟨q21, h⟩ := gd_some h
  refine s_last dX10_sumOf_180 (r_10_19 (w := 0) h_a0).2 q21 ?_
  obtain ⟨σ22, q23, h⟩ := lt_some h
  refine s_nms q23 ?_
  refine e_aload_n 0 dX10_sumOf_181 rfl rfl ?_
  refine s_getr dX10_sumOf_182 fl_RX10_36 h_a0 (r_10_19 h_a0).1 ?_
  refine e_bipush (v := (12 : Int32)) dX10_sumOf_185 (by decide) ?_
  refine e_aload_n 0 dX10_sumOf_187 rfl rfl ?_
  refine s_getr dX10_sumOf_188 fl_RX10_39 h_a0 (r_10_20 h_a0).1 ?_
  refine e_bipush (v := (10 : Int32)) dX10_sumOf_191 (by decide) ?_
  obtain ⟨q24, h⟩ := gd_some h
  refine s_iald dX10_sumOf_193 (r_10_20 (w := 0) h_a0).2 q24 ?_
  refine e_i2l dX10_sumOf_194 ?_
  obtain ⟨q25, h⟩ := gd_some h
  refine s_last dX10_sumOf_195 (r_10_19 (w := 0) h_a0).2 q25 ?_
  obtain ⟨σ26, q27, h⟩ := lt_some h
  refine s_nms q27 ?_
  refine e_aload_n 0 dX10_sumOf_196 rfl rfl ?_
  refine e_aload_n 0 dX10_sumOf_197 rfl rfl ?_
  refine s_geti dX10_sumOf_198 fl_RX10_42 h_a0 ?_
  obtain ⟨r30, σ29, q28, h⟩ := bd_some h
  refine s_callVl [.int (σ26.1 a0 21)] dX10_sumOf_201 ml_RX10_344 h_a0 rfl rfl (v_X10_summedBy (d + 0) h_a0 q28) (Nat.le_of_ble_eq_true rfl) ?_
  obtain rfl := Option.some.inj h
  exact s_ret rfl ⟨_, rfl⟩ dX10_sumOf_204
def f_X10_sumOf (a0 : Nat) (i1 : Int32) (i2 : Int32) (σ : mm_S) : Option (Int64 × mm_S) :=
    if 0 ≤ (σ.1 a0 21) then
      gd (0 : Int32) 13 <|
      lt (su_j σ 223 (0 : Int32).toNatClampNeg (i1 : Int32).toInt64) fun σ73 =>
      gd (1 : Int32) 13 <|
      lt (su_j σ73 223 (1 : Int32).toNatClampNeg (i2 : Int32).toInt64) fun σ76 =>
      bd (f_X10_tiredOf a0 i1 σ76) fun r80 σ79 =>
      gd (2 : Int32) 13 <|
      lt (su_j σ79 223 (2 : Int32).toNatClampNeg (r80 : Int32).toInt64) fun σ82 =>
      bd (f_X10_tiredOf a0 i2 σ82) fun r86 σ85 =>
      gd (3 : Int32) 13 <|
      lt (su_j σ85 223 (3 : Int32).toNatClampNeg (r86 : Int32).toInt64) fun σ88 =>
      bd (f_X10_penceOf a0 i1 σ88) fun r92 σ91 =>
      gd (4 : Int32) 13 <|
      lt (su_j σ91 223 (4 : Int32).toNatClampNeg (r92 : Int32).toInt64) fun σ94 =>
      bd (f_X10_penceOf a0 i2 σ94) fun r98 σ97 =>
      gd (5 : Int32) 13 <|
      lt (su_j σ97 223 (5 : Int32).toNatClampNeg (r98 : Int32).toInt64) fun σ100 =>
      gd (((53 : Int32) + ((6 : Int32) * i1)) + i2) 121 <|
      gd (6 : Int32) 13 <|
      lt (su_j σ100 223 (6 : Int32).toNatClampNeg ((σ100.1 224 (((53 : Int32) + ((6 : Int32) * i1)) + i2).toNatClampNeg) : Int32).toInt64) fun σ104 =>
      gd i2 6 <|
      if (σ104.1 226 i2.toNatClampNeg) = i1 then
        f_X10_sumOf_121 a0 i2 223 (7 : Int32) (1 : Int64) σ104
      else
        f_X10_sumOf_121 a0 i2 223 (7 : Int32) (0 : Int64) σ104
    else
      bd (f_X10_tiredOf a0 i2 σ) fun r110 σ109 =>
      some ((r110 : Int32).toInt64, σ109)
theorem v_X10_sumOf {g : mm_G} (d : Nat) {a0 : Nat} {i1 : Int32} {i2 : Int32} {σ : mm_S} {res : Int64 × mm_S} (h_a0 : (mm_K a0).1 = 10) (h : f_X10_sumOf a0 i1 i2 σ = some res) : SM g (d + 3) yy_X10_sumOf [.ref a0, .int i1, .int i2] σ (.long res.1) res.2 := by
  refine s_of (by decide) (Nat.le_of_ble_eq_true rfl) (L := [(0, .ref a0), (1, .int i1), (2, .int i2)]) rfl ?_
  unfold f_X10_sumOf at h
  refine e_aload_n 0 dX10_sumOf_0 rfl rfl ?_
  refine s_geti dX10_sumOf_1 fl_RX10_42 h_a0 ?_
  refine e_if_ge 14 dX10_sumOf_4 (by decide) (fun c71 => ?_) (fun c71 => ?_)
  · rw [if_pos c71] at h
    refine e_aload_n 0 dX10_sumOf_14 rfl rfl ?_
    refine s_getr dX10_sumOf_15 fl_RX10_36 h_a0 (r_10_19 h_a0).1 ?_
    refine e_iconst (v := (0 : Int32)) dX10_sumOf_18 (by decide) ?_
    refine e_iload_n 1 dX10_sumOf_19 rfl rfl ?_
    refine e_i2l dX10_sumOf_20 ?_
    obtain ⟨q72, h⟩ := gd_some h
    refine s_last dX10_sumOf_21 (r_10_19 (w := 0) h_a0).2 q72 ?_
    obtain ⟨σ73, q74, h⟩ := lt_some h
    refine s_nms q74 ?_
    refine e_aload_n 0 dX10_sumOf_22 rfl rfl ?_
    refine s_getr dX10_sumOf_23 fl_RX10_36 h_a0 (r_10_19 h_a0).1 ?_
    refine e_iconst (v := (1 : Int32)) dX10_sumOf_26 (by decide) ?_
    refine e_iload_n 2 dX10_sumOf_27 rfl rfl ?_
    refine e_i2l dX10_sumOf_28 ?_
    obtain ⟨q75, h⟩ := gd_some h
    refine s_last dX10_sumOf_29 (r_10_19 (w := 0) h_a0).2 q75 ?_
    obtain ⟨σ76, q77, h⟩ := lt_some h
    refine s_nms q77 ?_
    refine e_aload_n 0 dX10_sumOf_30 rfl rfl ?_
    refine s_getr dX10_sumOf_31 fl_RX10_36 h_a0 (r_10_19 h_a0).1 ?_
    refine e_iconst (v := (2 : Int32)) dX10_sumOf_34 (by decide) ?_
    refine e_aload_n 0 dX10_sumOf_35 rfl rfl ?_
    refine e_iload_n 1 dX10_sumOf_36 rfl rfl ?_
    obtain ⟨r80, σ79, q78, h⟩ := bd_some h
    refine s_callVi [.int i1] dX10_sumOf_37 ml_RX10_308 h_a0 ⟨_, rfl, by decide⟩ rfl (v_X10_tiredOf (d + 2) h_a0 q78) (Nat.le_of_ble_eq_true rfl) ?_
    refine e_i2l dX10_sumOf_40 ?_
    obtain ⟨q81, h⟩ := gd_some h
    refine s_last dX10_sumOf_41 (r_10_19 (w := 0) h_a0).2 q81 ?_
    obtain ⟨σ82, q83, h⟩ := lt_some h
    refine s_nms q83 ?_
    refine e_aload_n 0 dX10_sumOf_42 rfl rfl ?_
    refine s_getr dX10_sumOf_43 fl_RX10_36 h_a0 (r_10_19 h_a0).1 ?_
    refine e_iconst (v := (3 : Int32)) dX10_sumOf_46 (by decide) ?_
    refine e_aload_n 0 dX10_sumOf_47 rfl rfl ?_
    refine e_iload_n 2 dX10_sumOf_48 rfl rfl ?_
    obtain ⟨r86, σ85, q84, h⟩ := bd_some h
    refine s_callVi [.int i2] dX10_sumOf_49 ml_RX10_308 h_a0 ⟨_, rfl, by decide⟩ rfl (v_X10_tiredOf (d + 2) h_a0 q84) (Nat.le_of_ble_eq_true rfl) ?_
    refine e_i2l dX10_sumOf_52 ?_
    obtain ⟨q87, h⟩ := gd_some h
    refine s_last dX10_sumOf_53 (r_10_19 (w := 0) h_a0).2 q87 ?_
    obtain ⟨σ88, q89, h⟩ := lt_some h
    refine s_nms q89 ?_
    refine e_aload_n 0 dX10_sumOf_54 rfl rfl ?_
    refine s_getr dX10_sumOf_55 fl_RX10_36 h_a0 (r_10_19 h_a0).1 ?_
    refine e_iconst (v := (4 : Int32)) dX10_sumOf_58 (by decide) ?_
    refine e_aload_n 0 dX10_sumOf_59 rfl rfl ?_
    refine e_iload_n 1 dX10_sumOf_60 rfl rfl ?_
    obtain ⟨r92, σ91, q90, h⟩ := bd_some h
    refine s_callVi [.int i1] dX10_sumOf_61 ml_RX10_332 h_a0 ⟨_, rfl, by decide⟩ rfl (v_X10_penceOf (d + 2) h_a0 q90) (Nat.le_of_ble_eq_true rfl) ?_
    refine e_i2l dX10_sumOf_64 ?_
    obtain ⟨q93, h⟩ := gd_some h
    refine s_last dX10_sumOf_65 (r_10_19 (w := 0) h_a0).2 q93 ?_
    obtain ⟨σ94, q95, h⟩ := lt_some h
    refine s_nms q95 ?_
    refine e_aload_n 0 dX10_sumOf_66 rfl rfl ?_
    refine s_getr dX10_sumOf_67 fl_RX10_36 h_a0 (r_10_19 h_a0).1 ?_
    refine e_iconst (v := (5 : Int32)) dX10_sumOf_70 (by decide) ?_
    refine e_aload_n 0 dX10_sumOf_71 rfl rfl ?_
    refine e_iload_n 2 dX10_sumOf_72 rfl rfl ?_
    obtain ⟨r98, σ97, q96, h⟩ := bd_some h
    refine s_callVi [.int i2] dX10_sumOf_73 ml_RX10_332 h_a0 ⟨_, rfl, by decide⟩ rfl (v_X10_penceOf (d + 2) h_a0 q96) (Nat.le_of_ble_eq_true rfl) ?_
    refine e_i2l dX10_sumOf_76 ?_
    obtain ⟨q99, h⟩ := gd_some h
    refine s_last dX10_sumOf_77 (r_10_19 (w := 0) h_a0).2 q99 ?_
    obtain ⟨σ100, q101, h⟩ := lt_some h
    refine s_nms q101 ?_
    refine e_aload_n 0 dX10_sumOf_78 rfl rfl ?_
    refine s_getr dX10_sumOf_79 fl_RX10_36 h_a0 (r_10_19 h_a0).1 ?_
    refine e_bipush (v := (6 : Int32)) dX10_sumOf_82 (by decide) ?_
    refine e_aload_n 0 dX10_sumOf_84 rfl rfl ?_
    refine s_getr dX10_sumOf_85 fl_RX10_39 h_a0 (r_10_20 h_a0).1 ?_
    refine e_bipush (v := (53 : Int32)) dX10_sumOf_88 (by decide) ?_
    refine e_bipush (v := (6 : Int32)) dX10_sumOf_90 (by decide) ?_
    refine e_iload_n 1 dX10_sumOf_92 rfl rfl ?_
    refine e_imul dX10_sumOf_93 ?_
    refine e_iadd dX10_sumOf_94 ?_
    refine e_iload_n 2 dX10_sumOf_95 rfl rfl ?_
    refine e_iadd dX10_sumOf_96 ?_
    obtain ⟨q102, h⟩ := gd_some h
    refine s_iald dX10_sumOf_97 (r_10_20 (w := 0) h_a0).2 q102 ?_
    refine e_i2l dX10_sumOf_98 ?_
    obtain ⟨q103, h⟩ := gd_some h
    refine s_last dX10_sumOf_99 (r_10_19 (w := 0) h_a0).2 q103 ?_
    obtain ⟨σ104, q105, h⟩ := lt_some h
    refine s_nms q105 ?_
    refine e_aload_n 0 dX10_sumOf_100 rfl rfl ?_
    refine s_getr dX10_sumOf_101 fl_RX10_36 h_a0 (r_10_19 h_a0).1 ?_
    refine e_bipush (v := (7 : Int32)) dX10_sumOf_104 (by decide) ?_
    refine e_aload_n 0 dX10_sumOf_106 rfl rfl ?_
    refine s_getr dX10_sumOf_107 fl_RX10_55 h_a0 (r_10_27 h_a0).1 ?_
    refine e_iload_n 2 dX10_sumOf_110 rfl rfl ?_
    obtain ⟨q106, h⟩ := gd_some h
    refine s_iald dX10_sumOf_111 (r_10_27 (w := 0) h_a0).2 q106 ?_
    refine e_iload_n 1 dX10_sumOf_112 rfl rfl ?_
    refine e_icmp_ne 120 dX10_sumOf_113 (by decide) (fun c107 => ?_) (fun c107 => ?_)
    · rw [if_neg c107] at h
      refine e_lconst (v := (0 : Int64)) dX10_sumOf_120 (by decide) ?_
      refine s_pick (L' := [(0, .ref a0), (2, .int i2)]) [0, 2] rfl ?_
      exact v_X10_sumOf_121 d h_a0 (ka_1 (r_10_19 (w := 0) h_a0).2) h
    · rw [if_pos c107] at h
      refine e_lconst (v := (1 : Int64)) dX10_sumOf_116 (by decide) ?_
      refine e_goto 121 dX10_sumOf_117 (by decide) ?_
      refine s_pick (L' := [(0, .ref a0), (2, .int i2)]) [0, 2] rfl ?_
      exact v_X10_sumOf_121 d h_a0 (ka_1 (r_10_19 (w := 0) h_a0).2) h
  · rw [if_neg c71] at h
    refine e_aload_n 0 dX10_sumOf_7 rfl rfl ?_
    refine e_iload_n 2 dX10_sumOf_8 rfl rfl ?_
    obtain ⟨r110, σ109, q108, h⟩ := bd_some h
    refine s_callVi [.int i2] dX10_sumOf_9 ml_RX10_308 h_a0 ⟨_, rfl, by decide⟩ rfl (v_X10_tiredOf (d + 2) h_a0 q108) (Nat.le_of_ble_eq_true rfl) ?_
    refine e_i2l dX10_sumOf_12 ?_
    obtain rfl := Option.some.inj h
    exact s_ret rfl ⟨_, rfl⟩ dX10_sumOf_13
