abbrev yy_X10_isHouse : mm_Y := (yX10_isHouse, cX10_isHouse, 1, (some .boolean))
theorem dX10_isHouse_0 : decode cX10_isHouse 0 = .ok (.aload_n 0, 1) := by decide +kernel
theorem dX10_isHouse_1 : decode cX10_isHouse 1 = .ok (.getfield 39, 3) := by decide +kernel
theorem dX10_isHouse_4 : decode cX10_isHouse 4 = .ok (.iconst 0, 1) := by decide +kernel
theorem dX10_isHouse_5 : decode cX10_isHouse 5 = .ok (.iaload, 1) := by decide +kernel
theorem dX10_isHouse_6 : decode cX10_isHouse 6 = .ok (.iconst 1, 1) := by decide +kernel
theorem dX10_isHouse_7 : decode cX10_isHouse 7 = .ok (.if_icmp .ne 7, 3) := by decide +kernel
theorem dX10_isHouse_10 : decode cX10_isHouse 10 = .ok (.iconst 1, 1) := by decide +kernel
theorem dX10_isHouse_11 : decode cX10_isHouse 11 = .ok (.goto 4, 3) := by decide +kernel
theorem dX10_isHouse_14 : decode cX10_isHouse 14 = .ok (.iconst 0, 1) := by decide +kernel
theorem dX10_isHouse_15 : decode cX10_isHouse 15 = .ok (.ireturn, 1) := by decide +kernel
def f_X10_isHouse (a0 : Nat) (σ : mm_S) : Option (Int32 × mm_S) :=
    gd (0 : Int32) 121 <|
    if (σ.1 224 (0 : Int32).toNatClampNeg) = (1 : Int32) then
      some ((1 : Int32), σ)
    else
      some ((0 : Int32), σ)
theorem v_X10_isHouse {g : mm_G} (d : Nat) {a0 : Nat} {σ : mm_S} {res : Int32 × mm_S} (h_a0 : (mm_K a0).1 = 10) (h : f_X10_isHouse a0 σ = some res) : SM g (d + 0) yy_X10_isHouse [.ref a0] σ (.int res.1) res.2 := by
  refine s_of (by decide) (Nat.le_of_ble_eq_true rfl) (L := [(0, .ref a0)]) rfl ?_
  unfold f_X10_isHouse at h
  refine e_aload_n 0 dX10_isHouse_0 rfl rfl ?_
  refine s_getr dX10_isHouse_1 fl_RX10_39 h_a0 (r_10_20 h_a0).1 ?_
  refine e_iconst (v := (0 : Int32)) dX10_isHouse_4 (by decide) ?_
  obtain ⟨q3, h⟩ := gd_some h
  refine s_iald dX10_isHouse_5 (r_10_20 (w := 0) h_a0).2 q3 ?_
  refine e_iconst (v := (1 : Int32)) dX10_isHouse_6 (by decide) ?_
  refine e_icmp_ne 14 dX10_isHouse_7 (by decide) (fun c4 => ?_) (fun c4 => ?_)
  · rw [if_neg c4] at h
    refine e_iconst (v := (0 : Int32)) dX10_isHouse_14 (by decide) ?_
    obtain rfl := Option.some.inj h
    exact s_ret rfl ⟨_, rfl, nb1 (Or.inl rfl)⟩ dX10_isHouse_15
  · rw [if_pos c4] at h
    refine e_iconst (v := (1 : Int32)) dX10_isHouse_10 (by decide) ?_
    refine e_goto 15 dX10_isHouse_11 (by decide) ?_
    obtain rfl := Option.some.inj h
    exact s_ret rfl ⟨_, rfl, nb1 (Or.inr rfl)⟩ dX10_isHouse_15
abbrev yy_X10_isLodger : mm_Y := (yX10_isLodger, cX10_isLodger, 2, (some .boolean))
theorem dX10_isLodger_0 : decode cX10_isLodger 0 = .ok (.iload_n 1, 1) := by decide +kernel
theorem dX10_isLodger_1 : decode cX10_isLodger 1 = .ok (.ifCond .lt 17, 3) := by decide +kernel
theorem dX10_isLodger_4 : decode cX10_isLodger 4 = .ok (.iload_n 1, 1) := by decide +kernel
theorem dX10_isLodger_5 : decode cX10_isLodger 5 = .ok (.aload_n 0, 1) := by decide +kernel
theorem dX10_isLodger_6 : decode cX10_isLodger 6 = .ok (.getfield 39, 3) := by decide +kernel
theorem dX10_isLodger_9 : decode cX10_isLodger 9 = .ok (.iconst 3, 1) := by decide +kernel
theorem dX10_isLodger_10 : decode cX10_isLodger 10 = .ok (.iaload, 1) := by decide +kernel
theorem dX10_isLodger_11 : decode cX10_isLodger 11 = .ok (.if_icmp .ge 7, 3) := by decide +kernel
theorem dX10_isLodger_14 : decode cX10_isLodger 14 = .ok (.iconst 1, 1) := by decide +kernel
theorem dX10_isLodger_15 : decode cX10_isLodger 15 = .ok (.goto 4, 3) := by decide +kernel
theorem dX10_isLodger_18 : decode cX10_isLodger 18 = .ok (.iconst 0, 1) := by decide +kernel
theorem dX10_isLodger_19 : decode cX10_isLodger 19 = .ok (.ireturn, 1) := by decide +kernel
def f_X10_isLodger (a0 : Nat) (i1 : Int32) (σ : mm_S) : Option (Int32 × mm_S) :=
    if i1 < 0 then
      some ((0 : Int32), σ)
    else
      gd (3 : Int32) 121 <|
      if (σ.1 224 (3 : Int32).toNatClampNeg) ≤ i1 then
        some ((0 : Int32), σ)
      else
        some ((1 : Int32), σ)
theorem v_X10_isLodger {g : mm_G} (d : Nat) {a0 : Nat} {i1 : Int32} {σ : mm_S} {res : Int32 × mm_S} (h_a0 : (mm_K a0).1 = 10) (h : f_X10_isLodger a0 i1 σ = some res) : SM g (d + 0) yy_X10_isLodger [.ref a0, .int i1] σ (.int res.1) res.2 := by
  refine s_of (by decide) (Nat.le_of_ble_eq_true rfl) (L := [(0, .ref a0), (1, .int i1)]) rfl ?_
  unfold f_X10_isLodger at h
  refine e_iload_n 1 dX10_isLodger_0 rfl rfl ?_
  refine e_if_lt 18 dX10_isLodger_1 (by decide) (fun c4 => ?_) (fun c4 => ?_)
  · rw [if_pos c4] at h
    refine e_iconst (v := (0 : Int32)) dX10_isLodger_18 (by decide) ?_
    obtain rfl := Option.some.inj h
    exact s_ret rfl ⟨_, rfl, nb1 (Or.inl rfl)⟩ dX10_isLodger_19
  · rw [if_neg c4] at h
    refine e_iload_n 1 dX10_isLodger_4 rfl rfl ?_
    refine e_aload_n 0 dX10_isLodger_5 rfl rfl ?_
    refine s_getr dX10_isLodger_6 fl_RX10_39 h_a0 (r_10_20 h_a0).1 ?_
    refine e_iconst (v := (3 : Int32)) dX10_isLodger_9 (by decide) ?_
    obtain ⟨q5, h⟩ := gd_some h
    refine s_iald dX10_isLodger_10 (r_10_20 (w := 0) h_a0).2 q5 ?_
    refine e_icmp_ge 18 dX10_isLodger_11 (by decide) (fun c6 => ?_) (fun c6 => ?_)
    · rw [if_pos c6] at h
      refine e_iconst (v := (0 : Int32)) dX10_isLodger_18 (by decide) ?_
      obtain rfl := Option.some.inj h
      exact s_ret rfl ⟨_, rfl, nb1 (Or.inl rfl)⟩ dX10_isLodger_19
    · rw [if_neg c6] at h
      refine e_iconst (v := (1 : Int32)) dX10_isLodger_14 (by decide) ?_
      refine e_goto 19 dX10_isLodger_15 (by decide) ?_
      obtain rfl := Option.some.inj h
      exact s_ret rfl ⟨_, rfl, nb1 (Or.inr rfl)⟩ dX10_isLodger_19
abbrev yy_X10_tiredOf : mm_Y := (yX10_tiredOf, cX10_tiredOf, 2, (some .int))
theorem dX10_tiredOf_0 : decode cX10_tiredOf 0 = .ok (.aload_n 0, 1) := by decide +kernel
theorem dX10_tiredOf_1 : decode cX10_tiredOf 1 = .ok (.getfield 39, 3) := by decide +kernel
theorem dX10_tiredOf_4 : decode cX10_tiredOf 4 = .ok (.bipush 11, 2) := by decide +kernel
theorem dX10_tiredOf_6 : decode cX10_tiredOf 6 = .ok (.iconst 5, 1) := by decide +kernel
theorem dX10_tiredOf_7 : decode cX10_tiredOf 7 = .ok (.iload_n 1, 1) := by decide +kernel
theorem dX10_tiredOf_8 : decode cX10_tiredOf 8 = .ok (.imul, 1) := by decide +kernel
theorem dX10_tiredOf_9 : decode cX10_tiredOf 9 = .ok (.iadd, 1) := by decide +kernel
theorem dX10_tiredOf_10 : decode cX10_tiredOf 10 = .ok (.iaload, 1) := by decide +kernel
theorem dX10_tiredOf_11 : decode cX10_tiredOf 11 = .ok (.ireturn, 1) := by decide +kernel
def f_X10_tiredOf (a0 : Nat) (i1 : Int32) (σ : mm_S) : Option (Int32 × mm_S) :=
    gd ((11 : Int32) + ((5 : Int32) * i1)) 121 <|
    some ((σ.1 224 ((11 : Int32) + ((5 : Int32) * i1)).toNatClampNeg), σ)
theorem v_X10_tiredOf {g : mm_G} (d : Nat) {a0 : Nat} {i1 : Int32} {σ : mm_S} {res : Int32 × mm_S} (h_a0 : (mm_K a0).1 = 10) (h : f_X10_tiredOf a0 i1 σ = some res) : SM g (d + 0) yy_X10_tiredOf [.ref a0, .int i1] σ (.int res.1) res.2 := by
  refine s_of (by decide) (Nat.le_of_ble_eq_true rfl) (L := [(0, .ref a0), (1, .int i1)]) rfl ?_
  unfold f_X10_tiredOf at h
  refine e_aload_n 0 dX10_tiredOf_0 rfl rfl ?_
  refine s_getr dX10_tiredOf_1 fl_RX10_39 h_a0 (r_10_20 h_a0).1 ?_
  refine e_bipush (v := (11 : Int32)) dX10_tiredOf_4 (by decide) ?_
  refine e_iconst (v := (5 : Int32)) dX10_tiredOf_6 (by decide) ?_
  refine e_iload_n 1 dX10_tiredOf_7 rfl rfl ?_
  refine e_imul dX10_tiredOf_8 ?_
  refine e_iadd dX10_tiredOf_9 ?_
  obtain ⟨q2, h⟩ := gd_some h
  refine s_iald dX10_tiredOf_10 (r_10_20 (w := 0) h_a0).2 q2 ?_
  obtain rfl := Option.some.inj h
  exact s_ret rfl ⟨_, rfl, rfl⟩ dX10_tiredOf_11
abbrev yy_X10_penceOf : mm_Y := (yX10_penceOf, cX10_penceOf, 2, (some .int))
theorem dX10_penceOf_0 : decode cX10_penceOf 0 = .ok (.aload_n 0, 1) := by decide +kernel
theorem dX10_penceOf_1 : decode cX10_penceOf 1 = .ok (.getfield 39, 3) := by decide +kernel
theorem dX10_penceOf_4 : decode cX10_penceOf 4 = .ok (.bipush 11, 2) := by decide +kernel
theorem dX10_penceOf_6 : decode cX10_penceOf 6 = .ok (.iconst 5, 1) := by decide +kernel
theorem dX10_penceOf_7 : decode cX10_penceOf 7 = .ok (.iload_n 1, 1) := by decide +kernel
theorem dX10_penceOf_8 : decode cX10_penceOf 8 = .ok (.imul, 1) := by decide +kernel
theorem dX10_penceOf_9 : decode cX10_penceOf 9 = .ok (.iadd, 1) := by decide +kernel
theorem dX10_penceOf_10 : decode cX10_penceOf 10 = .ok (.iconst 1, 1) := by decide +kernel
theorem dX10_penceOf_11 : decode cX10_penceOf 11 = .ok (.iadd, 1) := by decide +kernel
theorem dX10_penceOf_12 : decode cX10_penceOf 12 = .ok (.iaload, 1) := by decide +kernel
theorem dX10_penceOf_13 : decode cX10_penceOf 13 = .ok (.ireturn, 1) := by decide +kernel
def f_X10_penceOf (a0 : Nat) (i1 : Int32) (σ : mm_S) : Option (Int32 × mm_S) :=
    gd (((11 : Int32) + ((5 : Int32) * i1)) + (1 : Int32)) 121 <|
    some ((σ.1 224 (((11 : Int32) + ((5 : Int32) * i1)) + (1 : Int32)).toNatClampNeg), σ)
theorem v_X10_penceOf {g : mm_G} (d : Nat) {a0 : Nat} {i1 : Int32} {σ : mm_S} {res : Int32 × mm_S} (h_a0 : (mm_K a0).1 = 10) (h : f_X10_penceOf a0 i1 σ = some res) : SM g (d + 0) yy_X10_penceOf [.ref a0, .int i1] σ (.int res.1) res.2 := by
  refine s_of (by decide) (Nat.le_of_ble_eq_true rfl) (L := [(0, .ref a0), (1, .int i1)]) rfl ?_
  unfold f_X10_penceOf at h
  refine e_aload_n 0 dX10_penceOf_0 rfl rfl ?_
  refine s_getr dX10_penceOf_1 fl_RX10_39 h_a0 (r_10_20 h_a0).1 ?_
  refine e_bipush (v := (11 : Int32)) dX10_penceOf_4 (by decide) ?_
  refine e_iconst (v := (5 : Int32)) dX10_penceOf_6 (by decide) ?_
  refine e_iload_n 1 dX10_penceOf_7 rfl rfl ?_
  refine e_imul dX10_penceOf_8 ?_
  refine e_iadd dX10_penceOf_9 ?_
  refine e_iconst (v := (1 : Int32)) dX10_penceOf_10 (by decide) ?_
  refine e_iadd dX10_penceOf_11 ?_
  obtain ⟨q2, h⟩ := gd_some h
  refine s_iald dX10_penceOf_12 (r_10_20 (w := 0) h_a0).2 q2 ?_
  obtain rfl := Option.some.inj h
  exact s_ret rfl ⟨_, rfl, rfl⟩ dX10_penceOf_13
abbrev yy_X10_isIn : mm_Y := (yX10_isIn, cX10_isIn, 2, (some .boolean))
theorem dX10_isIn_0 : decode cX10_isIn 0 = .ok (.aload_n 0, 1) := by decide +kernel
theorem dX10_isIn_1 : decode cX10_isIn 1 = .ok (.getfield 39, 3) := by decide +kernel
theorem dX10_isIn_4 : decode cX10_isIn 4 = .ok (.bipush 11, 2) := by decide +kernel
theorem dX10_isIn_6 : decode cX10_isIn 6 = .ok (.iconst 5, 1) := by decide +kernel
theorem dX10_isIn_7 : decode cX10_isIn 7 = .ok (.iload_n 1, 1) := by decide +kernel
theorem dX10_isIn_8 : decode cX10_isIn 8 = .ok (.imul, 1) := by decide +kernel
theorem dX10_isIn_9 : decode cX10_isIn 9 = .ok (.iadd, 1) := by decide +kernel
theorem dX10_isIn_10 : decode cX10_isIn 10 = .ok (.iconst 2, 1) := by decide +kernel
theorem dX10_isIn_11 : decode cX10_isIn 11 = .ok (.iadd, 1) := by decide +kernel
theorem dX10_isIn_12 : decode cX10_isIn 12 = .ok (.iaload, 1) := by decide +kernel
theorem dX10_isIn_13 : decode cX10_isIn 13 = .ok (.iconst 1, 1) := by decide +kernel
theorem dX10_isIn_14 : decode cX10_isIn 14 = .ok (.if_icmp .ne 7, 3) := by decide +kernel
theorem dX10_isIn_17 : decode cX10_isIn 17 = .ok (.iconst 1, 1) := by decide +kernel
theorem dX10_isIn_18 : decode cX10_isIn 18 = .ok (.goto 4, 3) := by decide +kernel
theorem dX10_isIn_21 : decode cX10_isIn 21 = .ok (.iconst 0, 1) := by decide +kernel
theorem dX10_isIn_22 : decode cX10_isIn 22 = .ok (.ireturn, 1) := by decide +kernel
def f_X10_isIn (a0 : Nat) (i1 : Int32) (σ : mm_S) : Option (Int32 × mm_S) :=
    gd (((11 : Int32) + ((5 : Int32) * i1)) + (2 : Int32)) 121 <|
    if (σ.1 224 (((11 : Int32) + ((5 : Int32) * i1)) + (2 : Int32)).toNatClampNeg) = (1 : Int32) then
      some ((1 : Int32), σ)
    else
      some ((0 : Int32), σ)
theorem v_X10_isIn {g : mm_G} (d : Nat) {a0 : Nat} {i1 : Int32} {σ : mm_S} {res : Int32 × mm_S} (h_a0 : (mm_K a0).1 = 10) (h : f_X10_isIn a0 i1 σ = some res) : SM g (d + 0) yy_X10_isIn [.ref a0, .int i1] σ (.int res.1) res.2 := by
  refine s_of (by decide) (Nat.le_of_ble_eq_true rfl) (L := [(0, .ref a0), (1, .int i1)]) rfl ?_
  unfold f_X10_isIn at h
  refine e_aload_n 0 dX10_isIn_0 rfl rfl ?_
  refine s_getr dX10_isIn_1 fl_RX10_39 h_a0 (r_10_20 h_a0).1 ?_
  refine e_bipush (v := (11 : Int32)) dX10_isIn_4 (by decide) ?_
  refine e_iconst (v := (5 : Int32)) dX10_isIn_6 (by decide) ?_
  refine e_iload_n 1 dX10_isIn_7 rfl rfl ?_
  refine e_imul dX10_isIn_8 ?_
  refine e_iadd dX10_isIn_9 ?_
  refine e_iconst (v := (2 : Int32)) dX10_isIn_10 (by decide) ?_
  refine e_iadd dX10_isIn_11 ?_
  obtain ⟨q3, h⟩ := gd_some h
  refine s_iald dX10_isIn_12 (r_10_20 (w := 0) h_a0).2 q3 ?_
  refine e_iconst (v := (1 : Int32)) dX10_isIn_13 (by decide) ?_
  refine e_icmp_ne 21 dX10_isIn_14 (by decide) (fun c4 => ?_) (fun c4 => ?_)
  · rw [if_neg c4] at h
    refine e_iconst (v := (0 : Int32)) dX10_isIn_21 (by decide) ?_
    obtain rfl := Option.some.inj h
    exact s_ret rfl ⟨_, rfl, nb1 (Or.inl rfl)⟩ dX10_isIn_22
  · rw [if_pos c4] at h
    refine e_iconst (v := (1 : Int32)) dX10_isIn_17 (by decide) ?_
    refine e_goto 22 dX10_isIn_18 (by decide) ?_
    obtain rfl := Option.some.inj h
    exact s_ret rfl ⟨_, rfl, nb1 (Or.inr rfl)⟩ dX10_isIn_22
abbrev yy_X10_soughtBy : mm_Y := (yX10_soughtBy, cX10_soughtBy, 2, (some .int))
theorem dX10_soughtBy_0 : decode cX10_soughtBy 0 = .ok (.aload_n 0, 1) := by decide +kernel
theorem dX10_soughtBy_1 : decode cX10_soughtBy 1 = .ok (.getfield 39, 3) := by decide +kernel
theorem dX10_soughtBy_4 : decode cX10_soughtBy 4 = .ok (.bipush 11, 2) := by decide +kernel
theorem dX10_soughtBy_6 : decode cX10_soughtBy 6 = .ok (.iconst 5, 1) := by decide +kernel
theorem dX10_soughtBy_7 : decode cX10_soughtBy 7 = .ok (.iload_n 1, 1) := by decide +kernel
theorem dX10_soughtBy_8 : decode cX10_soughtBy 8 = .ok (.imul, 1) := by decide +kernel
theorem dX10_soughtBy_9 : decode cX10_soughtBy 9 = .ok (.iadd, 1) := by decide +kernel
theorem dX10_soughtBy_10 : decode cX10_soughtBy 10 = .ok (.iconst 3, 1) := by decide +kernel
theorem dX10_soughtBy_11 : decode cX10_soughtBy 11 = .ok (.iadd, 1) := by decide +kernel
theorem dX10_soughtBy_12 : decode cX10_soughtBy 12 = .ok (.iaload, 1) := by decide +kernel
theorem dX10_soughtBy_13 : decode cX10_soughtBy 13 = .ok (.ireturn, 1) := by decide +kernel
def f_X10_soughtBy (a0 : Nat) (i1 : Int32) (σ : mm_S) : Option (Int32 × mm_S) :=
    gd (((11 : Int32) + ((5 : Int32) * i1)) + (3 : Int32)) 121 <|
    some ((σ.1 224 (((11 : Int32) + ((5 : Int32) * i1)) + (3 : Int32)).toNatClampNeg), σ)
theorem v_X10_soughtBy {g : mm_G} (d : Nat) {a0 : Nat} {i1 : Int32} {σ : mm_S} {res : Int32 × mm_S} (h_a0 : (mm_K a0).1 = 10) (h : f_X10_soughtBy a0 i1 σ = some res) : SM g (d + 0) yy_X10_soughtBy [.ref a0, .int i1] σ (.int res.1) res.2 := by
  refine s_of (by decide) (Nat.le_of_ble_eq_true rfl) (L := [(0, .ref a0), (1, .int i1)]) rfl ?_
  unfold f_X10_soughtBy at h
  refine e_aload_n 0 dX10_soughtBy_0 rfl rfl ?_
  refine s_getr dX10_soughtBy_1 fl_RX10_39 h_a0 (r_10_20 h_a0).1 ?_
  refine e_bipush (v := (11 : Int32)) dX10_soughtBy_4 (by decide) ?_
  refine e_iconst (v := (5 : Int32)) dX10_soughtBy_6 (by decide) ?_
  refine e_iload_n 1 dX10_soughtBy_7 rfl rfl ?_
  refine e_imul dX10_soughtBy_8 ?_
  refine e_iadd dX10_soughtBy_9 ?_
  refine e_iconst (v := (3 : Int32)) dX10_soughtBy_10 (by decide) ?_
  refine e_iadd dX10_soughtBy_11 ?_
  obtain ⟨q2, h⟩ := gd_some h
  refine s_iald dX10_soughtBy_12 (r_10_20 (w := 0) h_a0).2 q2 ?_
  obtain rfl := Option.some.inj h
  exact s_ret rfl ⟨_, rfl, rfl⟩ dX10_soughtBy_13
abbrev yy_X10_sleptBy : mm_Y := (yX10_sleptBy, cX10_sleptBy, 2, (some .int))
theorem dX10_sleptBy_0 : decode cX10_sleptBy 0 = .ok (.aload_n 0, 1) := by decide +kernel
theorem dX10_sleptBy_1 : decode cX10_sleptBy 1 = .ok (.getfield 39, 3) := by decide +kernel
theorem dX10_sleptBy_4 : decode cX10_sleptBy 4 = .ok (.bipush 11, 2) := by decide +kernel
theorem dX10_sleptBy_6 : decode cX10_sleptBy 6 = .ok (.iconst 5, 1) := by decide +kernel
theorem dX10_sleptBy_7 : decode cX10_sleptBy 7 = .ok (.iload_n 1, 1) := by decide +kernel
theorem dX10_sleptBy_8 : decode cX10_sleptBy 8 = .ok (.imul, 1) := by decide +kernel
theorem dX10_sleptBy_9 : decode cX10_sleptBy 9 = .ok (.iadd, 1) := by decide +kernel
theorem dX10_sleptBy_10 : decode cX10_sleptBy 10 = .ok (.iconst 4, 1) := by decide +kernel
theorem dX10_sleptBy_11 : decode cX10_sleptBy 11 = .ok (.iadd, 1) := by decide +kernel
theorem dX10_sleptBy_12 : decode cX10_sleptBy 12 = .ok (.iaload, 1) := by decide +kernel
theorem dX10_sleptBy_13 : decode cX10_sleptBy 13 = .ok (.ireturn, 1) := by decide +kernel
def f_X10_sleptBy (a0 : Nat) (i1 : Int32) (σ : mm_S) : Option (Int32 × mm_S) :=
    gd (((11 : Int32) + ((5 : Int32) * i1)) + (4 : Int32)) 121 <|
    some ((σ.1 224 (((11 : Int32) + ((5 : Int32) * i1)) + (4 : Int32)).toNatClampNeg), σ)
theorem v_X10_sleptBy {g : mm_G} (d : Nat) {a0 : Nat} {i1 : Int32} {σ : mm_S} {res : Int32 × mm_S} (h_a0 : (mm_K a0).1 = 10) (h : f_X10_sleptBy a0 i1 σ = some res) : SM g (d + 0) yy_X10_sleptBy [.ref a0, .int i1] σ (.int res.1) res.2 := by
  refine s_of (by decide) (Nat.le_of_ble_eq_true rfl) (L := [(0, .ref a0), (1, .int i1)]) rfl ?_
  unfold f_X10_sleptBy at h
  refine e_aload_n 0 dX10_sleptBy_0 rfl rfl ?_
  refine s_getr dX10_sleptBy_1 fl_RX10_39 h_a0 (r_10_20 h_a0).1 ?_
  refine e_bipush (v := (11 : Int32)) dX10_sleptBy_4 (by decide) ?_
  refine e_iconst (v := (5 : Int32)) dX10_sleptBy_6 (by decide) ?_
  refine e_iload_n 1 dX10_sleptBy_7 rfl rfl ?_
  refine e_imul dX10_sleptBy_8 ?_
  refine e_iadd dX10_sleptBy_9 ?_
  refine e_iconst (v := (4 : Int32)) dX10_sleptBy_10 (by decide) ?_
  refine e_iadd dX10_sleptBy_11 ?_
  obtain ⟨q2, h⟩ := gd_some h
  refine s_iald dX10_sleptBy_12 (r_10_20 (w := 0) h_a0).2 q2 ?_
  obtain rfl := Option.some.inj h
  exact s_ret rfl ⟨_, rfl, rfl⟩ dX10_sleptBy_13
abbrev yy_X10_inside : mm_Y := (yX10_inside, cX10_inside, 3, (some .int))
theorem dX10_inside_0 : decode cX10_inside 0 = .ok (.iconst 0, 1) := by decide +kernel
theorem dX10_inside_1 : decode cX10_inside 1 = .ok (.istore_n 1, 1) := by decide +kernel
theorem dX10_inside_2 : decode cX10_inside 2 = .ok (.iconst 0, 1) := by decide +kernel
theorem dX10_inside_3 : decode cX10_inside 3 = .ok (.istore_n 2, 1) := by decide +kernel
theorem dX10_inside_4 : decode cX10_inside 4 = .ok (.iload_n 2, 1) := by decide +kernel
theorem dX10_inside_5 : decode cX10_inside 5 = .ok (.aload_n 0, 1) := by decide +kernel
theorem dX10_inside_6 : decode cX10_inside 6 = .ok (.getfield 39, 3) := by decide +kernel
theorem dX10_inside_9 : decode cX10_inside 9 = .ok (.iconst 3, 1) := by decide +kernel
theorem dX10_inside_10 : decode cX10_inside 10 = .ok (.iaload, 1) := by decide +kernel
theorem dX10_inside_11 : decode cX10_inside 11 = .ok (.if_icmp .ge 27, 3) := by decide +kernel
theorem dX10_inside_14 : decode cX10_inside 14 = .ok (.iload_n 1, 1) := by decide +kernel
theorem dX10_inside_15 : decode cX10_inside 15 = .ok (.aload_n 0, 1) := by decide +kernel
theorem dX10_inside_16 : decode cX10_inside 16 = .ok (.iload_n 2, 1) := by decide +kernel
theorem dX10_inside_17 : decode cX10_inside 17 = .ok (.invokevirtual 302, 3) := by decide +kernel
theorem dX10_inside_20 : decode cX10_inside 20 = .ok (.ifCond .eq 9, 3) := by decide +kernel
theorem dX10_inside_23 : decode cX10_inside 23 = .ok (.iconst 1, 1) := by decide +kernel
theorem dX10_inside_24 : decode cX10_inside 24 = .ok (.iload_n 2, 1) := by decide +kernel
theorem dX10_inside_25 : decode cX10_inside 25 = .ok (.ishl, 1) := by decide +kernel
theorem dX10_inside_26 : decode cX10_inside 26 = .ok (.goto 4, 3) := by decide +kernel
theorem dX10_inside_29 : decode cX10_inside 29 = .ok (.iconst 0, 1) := by decide +kernel
theorem dX10_inside_30 : decode cX10_inside 30 = .ok (.ior, 1) := by decide +kernel
theorem dX10_inside_31 : decode cX10_inside 31 = .ok (.istore_n 1, 1) := by decide +kernel
theorem dX10_inside_32 : decode cX10_inside 32 = .ok (.iinc 2 1, 3) := by decide +kernel
theorem dX10_inside_35 : decode cX10_inside 35 = .ok (.goto (-31), 3) := by decide +kernel
theorem dX10_inside_38 : decode cX10_inside 38 = .ok (.iload_n 1, 1) := by decide +kernel
theorem dX10_inside_39 : decode cX10_inside 39 = .ok (.ireturn, 1) := by decide +kernel
def f_X10_inside_4 (a0 : Nat) (i1 : Int32) (i2 : Int32) (σ : mm_S) : Option (Int32 × mm_S) :=
  lp lpN (fun (k4 : (Int32 × Int32) → mm_S → Option (Int32 × mm_S)) (v : Int32 × Int32) (σ : mm_S) =>
    gd (3 : Int32) 121 <|
    if (σ.1 224 (3 : Int32).toNatClampNeg) ≤ v.2 then
      some (v.1, σ)
    else
      bd (f_X10_isIn a0 v.2 σ) fun r5 σ4 =>
      if r5 = 0 then
        lt ((v.1 ||| (0 : Int32))) fun x7 =>
        lt (v.2 + Int32.ofInt (1)) fun x9 =>
        k4 (x7, x9) σ4
      else
        lt ((v.1 ||| ((1 : Int32) <<< (v.2 &&& 31)))) fun x11 =>
        lt (v.2 + Int32.ofInt (1)) fun x13 =>
        k4 (x11, x13) σ4) (i1, i2) σ
theorem v_X10_inside_4 {g : mm_G} (d : Nat) {a0 : Nat} {i1 : Int32} {i2 : Int32} {σ : mm_S} {res : Int32 × mm_S}  (h_a0 : (mm_K a0).1 = 10) (h : f_X10_inside_4 a0 i1 i2 σ = some res) : SV g (d + 1) yy_X10_inside 4 [(0, .ref a0), (1, .int i1), (2, .int i2)] [] σ (.int res.1) res.2 := by
  unfold f_X10_inside_4 at h
  refine lp_ind (P := fun v σ => SV g (d + 1) yy_X10_inside 4 [(0, .ref a0), (1, .int v.1), (2, .int v.2)] [] σ (.int res.1) res.2) (fun k4 H4 v σ h => ?_) _ (i1, i2) σ h
  refine e_iload_n 2 dX10_inside_4 rfl rfl ?_
  refine e_aload_n 0 dX10_inside_5 rfl rfl ?_
  refine s_getr dX10_inside_6 fl_RX10_39 h_a0 (r_10_20 h_a0).1 ?_
  refine e_iconst (v := (3 : Int32)) dX10_inside_9 (by decide) ?_
  obtain ⟨q1, h⟩ := gd_some h
  refine s_iald dX10_inside_10 (r_10_20 (w := 0) h_a0).2 q1 ?_
  refine e_icmp_ge 38 dX10_inside_11 (by decide) (fun c2 => ?_) (fun c2 => ?_)
  · rw [if_pos c2] at h
    refine e_iload_n 1 dX10_inside_38 rfl rfl ?_
    obtain rfl := Option.some.inj h
    exact s_ret rfl ⟨_, rfl, rfl⟩ dX10_inside_39
  · rw [if_neg c2] at h
    refine e_iload_n 1 dX10_inside_14 rfl rfl ?_
    refine e_aload_n 0 dX10_inside_15 rfl rfl ?_
    refine e_iload_n 2 dX10_inside_16 rfl rfl ?_
    obtain ⟨r5, σ4, q3, h⟩ := bd_some h
    refine s_callVi [.int v.2] dX10_inside_17 ml_RX10_302 h_a0 ⟨_, rfl, by decide⟩ rfl (v_X10_isIn (d + 0) h_a0 q3) (Nat.le_of_ble_eq_true rfl) ?_
    refine e_if_eq 29 dX10_inside_20 (by decide) (fun c6 => ?_) (fun c6 => ?_)
    · rw [if_pos c6] at h
      refine e_iconst (v := (0 : Int32)) dX10_inside_29 (by decide) ?_
      refine e_ior dX10_inside_30 ?_
      obtain ⟨x7, q8, h⟩ := lt_some h
      refine s_nmi q8 ?_
      refine e_istore_n (L' := [(0, .ref a0), (1, .int x7), (2, .int v.2)]) dX10_inside_31 rfl (by decide) rfl ?_
      obtain ⟨x9, q10, h⟩ := lt_some h
      refine e_iinc (v := x9) (L' := [(0, .ref a0), (1, .int x7), (2, .int x9)]) 2 dX10_inside_32 rfl q10.symm (by decide) rfl ?_
      refine e_goto 4 dX10_inside_35 (by decide) ?_
      refine s_pick (L' := [(0, .ref a0), (1, .int x7), (2, .int x9)]) [0, 1, 2] rfl ?_
      exact H4 (x7, x9) σ4 h
    · rw [if_neg c6] at h
      refine e_iconst (v := (1 : Int32)) dX10_inside_23 (by decide) ?_
      refine e_iload_n 2 dX10_inside_24 rfl rfl ?_
      refine e_ishl dX10_inside_25 ?_
      refine e_goto 30 dX10_inside_26 (by decide) ?_
      refine e_ior dX10_inside_30 ?_
      obtain ⟨x11, q12, h⟩ := lt_some h
      refine s_nmi q12 ?_
      refine e_istore_n (L' := [(0, .ref a0), (1, .int x11), (2, .int v.2)]) dX10_inside_31 rfl (by decide) rfl ?_
      obtain ⟨x13, q14, h⟩ := lt_some h
      refine e_iinc (v := x13) (L' := [(0, .ref a0), (1, .int x11), (2, .int x13)]) 2 dX10_inside_32 rfl q14.symm (by decide) rfl ?_
      refine e_goto 4 dX10_inside_35 (by decide) ?_
      refine s_pick (L' := [(0, .ref a0), (1, .int x11), (2, .int x13)]) [0, 1, 2] rfl ?_
      exact H4 (x11, x13) σ4 h
def f_X10_inside (a0 : Nat) (σ : mm_S) : Option (Int32 × mm_S) :=
    f_X10_inside_4 a0 (0 : Int32) (0 : Int32) σ
theorem v_X10_inside {g : mm_G} (d : Nat) {a0 : Nat} {σ : mm_S} {res : Int32 × mm_S} (h_a0 : (mm_K a0).1 = 10) (h : f_X10_inside a0 σ = some res) : SM g (d + 1) yy_X10_inside [.ref a0] σ (.int res.1) res.2 := by
  refine s_of (by decide) (Nat.le_of_ble_eq_true rfl) (L := [(0, .ref a0)]) rfl ?_
  unfold f_X10_inside at h
  refine e_iconst (v := (0 : Int32)) dX10_inside_0 (by decide) ?_
  refine e_istore_n (L' := [(0, .ref a0), (1, .int (0 : Int32))]) dX10_inside_1 rfl (by decide) rfl ?_
  refine e_iconst (v := (0 : Int32)) dX10_inside_2 (by decide) ?_
  refine e_istore_n (L' := [(0, .ref a0), (1, .int (0 : Int32)), (2, .int (0 : Int32))]) dX10_inside_3 rfl (by decide) rfl ?_
  refine s_pick (L' := [(0, .ref a0), (1, .int (0 : Int32)), (2, .int (0 : Int32))]) [0, 1, 2] rfl ?_
  exact v_X10_inside_4 d h_a0 h
abbrev yy_X10_soughtOnes : mm_Y := (yX10_soughtOnes, cX10_soughtOnes, 3, (some .int))
theorem dX10_soughtOnes_0 : decode cX10_soughtOnes 0 = .ok (.iconst 0, 1) := by decide +kernel
theorem dX10_soughtOnes_1 : decode cX10_soughtOnes 1 = .ok (.istore_n 1, 1) := by decide +kernel
theorem dX10_soughtOnes_2 : decode cX10_soughtOnes 2 = .ok (.iconst 0, 1) := by decide +kernel
theorem dX10_soughtOnes_3 : decode cX10_soughtOnes 3 = .ok (.istore_n 2, 1) := by decide +kernel
theorem dX10_soughtOnes_4 : decode cX10_soughtOnes 4 = .ok (.iload_n 2, 1) := by decide +kernel
theorem dX10_soughtOnes_5 : decode cX10_soughtOnes 5 = .ok (.aload_n 0, 1) := by decide +kernel
theorem dX10_soughtOnes_6 : decode cX10_soughtOnes 6 = .ok (.getfield 39, 3) := by decide +kernel
theorem dX10_soughtOnes_9 : decode cX10_soughtOnes 9 = .ok (.iconst 3, 1) := by decide +kernel
theorem dX10_soughtOnes_10 : decode cX10_soughtOnes 10 = .ok (.iaload, 1) := by decide +kernel
theorem dX10_soughtOnes_11 : decode cX10_soughtOnes 11 = .ok (.if_icmp .ge 31, 3) := by decide +kernel
theorem dX10_soughtOnes_14 : decode cX10_soughtOnes 14 = .ok (.iload_n 1, 1) := by decide +kernel
theorem dX10_soughtOnes_15 : decode cX10_soughtOnes 15 = .ok (.aload_n 0, 1) := by decide +kernel
theorem dX10_soughtOnes_16 : decode cX10_soughtOnes 16 = .ok (.iload_n 2, 1) := by decide +kernel
theorem dX10_soughtOnes_17 : decode cX10_soughtOnes 17 = .ok (.invokevirtual 305, 3) := by decide +kernel
theorem dX10_soughtOnes_20 : decode cX10_soughtOnes 20 = .ok (.ifCond .lt 13, 3) := by decide +kernel
theorem dX10_soughtOnes_23 : decode cX10_soughtOnes 23 = .ok (.iconst 1, 1) := by decide +kernel
theorem dX10_soughtOnes_24 : decode cX10_soughtOnes 24 = .ok (.aload_n 0, 1) := by decide +kernel
theorem dX10_soughtOnes_25 : decode cX10_soughtOnes 25 = .ok (.iload_n 2, 1) := by decide +kernel
theorem dX10_soughtOnes_26 : decode cX10_soughtOnes 26 = .ok (.invokevirtual 305, 3) := by decide +kernel
theorem dX10_soughtOnes_29 : decode cX10_soughtOnes 29 = .ok (.ishl, 1) := by decide +kernel
theorem dX10_soughtOnes_30 : decode cX10_soughtOnes 30 = .ok (.goto 4, 3) := by decide +kernel
theorem dX10_soughtOnes_33 : decode cX10_soughtOnes 33 = .ok (.iconst 0, 1) := by decide +kernel
theorem dX10_soughtOnes_34 : decode cX10_soughtOnes 34 = .ok (.ior, 1) := by decide +kernel
theorem dX10_soughtOnes_35 : decode cX10_soughtOnes 35 = .ok (.istore_n 1, 1) := by decide +kernel
theorem dX10_soughtOnes_36 : decode cX10_soughtOnes 36 = .ok (.iinc 2 1, 3) := by decide +kernel
theorem dX10_soughtOnes_39 : decode cX10_soughtOnes 39 = .ok (.goto (-35), 3) := by decide +kernel
theorem dX10_soughtOnes_42 : decode cX10_soughtOnes 42 = .ok (.iload_n 1, 1) := by decide +kernel
theorem dX10_soughtOnes_43 : decode cX10_soughtOnes 43 = .ok (.ireturn, 1) := by decide +kernel
def f_X10_soughtOnes_4 (a0 : Nat) (i1 : Int32) (i2 : Int32) (σ : mm_S) : Option (Int32 × mm_S) :=
  lp lpN (fun (k4 : (Int32 × Int32) → mm_S → Option (Int32 × mm_S)) (v : Int32 × Int32) (σ : mm_S) =>
    gd (3 : Int32) 121 <|
    if (σ.1 224 (3 : Int32).toNatClampNeg) ≤ v.2 then
      some (v.1, σ)
    else
      bd (f_X10_soughtBy a0 v.2 σ) fun r5 σ4 =>
      if r5 < 0 then
        lt ((v.1 ||| (0 : Int32))) fun x7 =>
        lt (v.2 + Int32.ofInt (1)) fun x9 =>
        k4 (x7, x9) σ4
      else
        bd (f_X10_soughtBy a0 v.2 σ4) fun r13 σ12 =>
        lt ((v.1 ||| ((1 : Int32) <<< (r13 &&& 31)))) fun x14 =>
        lt (v.2 + Int32.ofInt (1)) fun x16 =>
        k4 (x14, x16) σ12) (i1, i2) σ
theorem v_X10_soughtOnes_4 {g : mm_G} (d : Nat) {a0 : Nat} {i1 : Int32} {i2 : Int32} {σ : mm_S} {res : Int32 × mm_S}  (h_a0 : (mm_K a0).1 = 10) (h : f_X10_soughtOnes_4 a0 i1 i2 σ = some res) : SV g (d + 1) yy_X10_soughtOnes 4 [(0, .ref a0), (1, .int i1), (2, .int i2)] [] σ (.int res.1) res.2 := by
  unfold f_X10_soughtOnes_4 at h
  refine lp_ind (P := fun v σ => SV g (d + 1) yy_X10_soughtOnes 4 [(0, .ref a0), (1, .int v.1), (2, .int v.2)] [] σ (.int res.1) res.2) (fun k4 H4 v σ h => ?_) _ (i1, i2) σ h
  refine e_iload_n 2 dX10_soughtOnes_4 rfl rfl ?_
  refine e_aload_n 0 dX10_soughtOnes_5 rfl rfl ?_
  refine s_getr dX10_soughtOnes_6 fl_RX10_39 h_a0 (r_10_20 h_a0).1 ?_
  refine e_iconst (v := (3 : Int32)) dX10_soughtOnes_9 (by decide) ?_
  obtain ⟨q1, h⟩ := gd_some h
  refine s_iald dX10_soughtOnes_10 (r_10_20 (w := 0) h_a0).2 q1 ?_
  refine e_icmp_ge 42 dX10_soughtOnes_11 (by decide) (fun c2 => ?_) (fun c2 => ?_)
  · rw [if_pos c2] at h
    refine e_iload_n 1 dX10_soughtOnes_42 rfl rfl ?_
    obtain rfl := Option.some.inj h
    exact s_ret rfl ⟨_, rfl, rfl⟩ dX10_soughtOnes_43
  · rw [if_neg c2] at h
    refine e_iload_n 1 dX10_soughtOnes_14 rfl rfl ?_
    refine e_aload_n 0 dX10_soughtOnes_15 rfl rfl ?_
    refine e_iload_n 2 dX10_soughtOnes_16 rfl rfl ?_
    obtain ⟨r5, σ4, q3, h⟩ := bd_some h
    refine s_callVi [.int v.2] dX10_soughtOnes_17 ml_RX10_305 h_a0 ⟨_, rfl, by decide⟩ rfl (v_X10_soughtBy (d + 0) h_a0 q3) (Nat.le_of_ble_eq_true rfl) ?_
    refine e_if_lt 33 dX10_soughtOnes_20 (by decide) (fun c6 => ?_) (fun c6 => ?_)
    · rw [if_pos c6] at h
      refine e_iconst (v := (0 : Int32)) dX10_soughtOnes_33 (by decide) ?_
      refine e_ior dX10_soughtOnes_34 ?_
      obtain ⟨x7, q8, h⟩ := lt_some h
      refine s_nmi q8 ?_
      refine e_istore_n (L' := [(0, .ref a0), (1, .int x7), (2, .int v.2)]) dX10_soughtOnes_35 rfl (by decide) rfl ?_
      obtain ⟨x9, q10, h⟩ := lt_some h
      refine e_iinc (v := x9) (L' := [(0, .ref a0), (1, .int x7), (2, .int x9)]) 2 dX10_soughtOnes_36 rfl q10.symm (by decide) rfl ?_
      refine e_goto 4 dX10_soughtOnes_39 (by decide) ?_
      refine s_pick (L' := [(0, .ref a0), (1, .int x7), (2, .int x9)]) [0, 1, 2] rfl ?_
      exact H4 (x7, x9) σ4 h
    · rw [if_neg c6] at h
      refine e_iconst (v := (1 : Int32)) dX10_soughtOnes_23 (by decide) ?_
      refine e_aload_n 0 dX10_soughtOnes_24 rfl rfl ?_
      refine e_iload_n 2 dX10_soughtOnes_25 rfl rfl ?_
      obtain ⟨r13, σ12, q11, h⟩ := bd_some h
      refine s_callVi [.int v.2] dX10_soughtOnes_26 ml_RX10_305 h_a0 ⟨_, rfl, by decide⟩ rfl (v_X10_soughtBy (d + 0) h_a0 q11) (Nat.le_of_ble_eq_true rfl) ?_
      refine e_ishl dX10_soughtOnes_29 ?_
      refine e_goto 34 dX10_soughtOnes_30 (by decide) ?_
      refine e_ior dX10_soughtOnes_34 ?_
      obtain ⟨x14, q15, h⟩ := lt_some h
      refine s_nmi q15 ?_
      refine e_istore_n (L' := [(0, .ref a0), (1, .int x14), (2, .int v.2)]) dX10_soughtOnes_35 rfl (by decide) rfl ?_
      obtain ⟨x16, q17, h⟩ := lt_some h
      refine e_iinc (v := x16) (L' := [(0, .ref a0), (1, .int x14), (2, .int x16)]) 2 dX10_soughtOnes_36 rfl q17.symm (by decide) rfl ?_
      refine e_goto 4 dX10_soughtOnes_39 (by decide) ?_
      refine s_pick (L' := [(0, .ref a0), (1, .int x14), (2, .int x16)]) [0, 1, 2] rfl ?_
      exact H4 (x14, x16) σ12 h
def f_X10_soughtOnes (a0 : Nat) (σ : mm_S) : Option (Int32 × mm_S) :=
    f_X10_soughtOnes_4 a0 (0 : Int32) (0 : Int32) σ
theorem v_X10_soughtOnes {g : mm_G} (d : Nat) {a0 : Nat} {σ : mm_S} {res : Int32 × mm_S} (h_a0 : (mm_K a0).1 = 10) (h : f_X10_soughtOnes a0 σ = some res) : SM g (d + 1) yy_X10_soughtOnes [.ref a0] σ (.int res.1) res.2 := by
  refine s_of (by decide) (Nat.le_of_ble_eq_true rfl) (L := [(0, .ref a0)]) rfl ?_
  unfold f_X10_soughtOnes at h
  refine e_iconst (v := (0 : Int32)) dX10_soughtOnes_0 (by decide) ?_
  refine e_istore_n (L' := [(0, .ref a0), (1, .int (0 : Int32))]) dX10_soughtOnes_1 rfl (by decide) rfl ?_
  refine e_iconst (v := (0 : Int32)) dX10_soughtOnes_2 (by decide) ?_
  refine e_istore_n (L' := [(0, .ref a0), (1, .int (0 : Int32)), (2, .int (0 : Int32))]) dX10_soughtOnes_3 rfl (by decide) rfl ?_
  refine s_pick (L' := [(0, .ref a0), (1, .int (0 : Int32)), (2, .int (0 : Int32))]) [0, 1, 2] rfl ?_
  exact v_X10_soughtOnes_4 d h_a0 h
abbrev yy_X10_tiredAll : mm_Y := (yX10_tiredAll, cX10_tiredAll, 3, (some .int))
theorem dX10_tiredAll_0 : decode cX10_tiredAll 0 = .ok (.iconst 0, 1) := by decide +kernel
theorem dX10_tiredAll_1 : decode cX10_tiredAll 1 = .ok (.istore_n 1, 1) := by decide +kernel
theorem dX10_tiredAll_2 : decode cX10_tiredAll 2 = .ok (.iconst 0, 1) := by decide +kernel
theorem dX10_tiredAll_3 : decode cX10_tiredAll 3 = .ok (.istore_n 2, 1) := by decide +kernel
theorem dX10_tiredAll_4 : decode cX10_tiredAll 4 = .ok (.iload_n 2, 1) := by decide +kernel
theorem dX10_tiredAll_5 : decode cX10_tiredAll 5 = .ok (.aload_n 0, 1) := by decide +kernel
theorem dX10_tiredAll_6 : decode cX10_tiredAll 6 = .ok (.getfield 39, 3) := by decide +kernel
theorem dX10_tiredAll_9 : decode cX10_tiredAll 9 = .ok (.iconst 3, 1) := by decide +kernel
theorem dX10_tiredAll_10 : decode cX10_tiredAll 10 = .ok (.iaload, 1) := by decide +kernel
theorem dX10_tiredAll_11 : decode cX10_tiredAll 11 = .ok (.if_icmp .ge 17, 3) := by decide +kernel
theorem dX10_tiredAll_14 : decode cX10_tiredAll 14 = .ok (.iload_n 1, 1) := by decide +kernel
theorem dX10_tiredAll_15 : decode cX10_tiredAll 15 = .ok (.aload_n 0, 1) := by decide +kernel
theorem dX10_tiredAll_16 : decode cX10_tiredAll 16 = .ok (.iload_n 2, 1) := by decide +kernel
theorem dX10_tiredAll_17 : decode cX10_tiredAll 17 = .ok (.invokevirtual 308, 3) := by decide +kernel
theorem dX10_tiredAll_20 : decode cX10_tiredAll 20 = .ok (.iadd, 1) := by decide +kernel
theorem dX10_tiredAll_21 : decode cX10_tiredAll 21 = .ok (.istore_n 1, 1) := by decide +kernel
theorem dX10_tiredAll_22 : decode cX10_tiredAll 22 = .ok (.iinc 2 1, 3) := by decide +kernel
theorem dX10_tiredAll_25 : decode cX10_tiredAll 25 = .ok (.goto (-21), 3) := by decide +kernel
theorem dX10_tiredAll_28 : decode cX10_tiredAll 28 = .ok (.iload_n 1, 1) := by decide +kernel
theorem dX10_tiredAll_29 : decode cX10_tiredAll 29 = .ok (.ireturn, 1) := by decide +kernel
def f_X10_tiredAll_4 (a0 : Nat) (i1 : Int32) (i2 : Int32) (σ : mm_S) : Option (Int32 × mm_S) :=
  lp lpN (fun (k4 : (Int32 × Int32) → mm_S → Option (Int32 × mm_S)) (v : Int32 × Int32) (σ : mm_S) =>
    gd (3 : Int32) 121 <|
    if (σ.1 224 (3 : Int32).toNatClampNeg) ≤ v.2 then
      some (v.1, σ)
    else
      bd (f_X10_tiredOf a0 v.2 σ) fun r5 σ4 =>
      lt ((v.1 + r5)) fun x6 =>
      lt (v.2 + Int32.ofInt (1)) fun x8 =>
      k4 (x6, x8) σ4) (i1, i2) σ
theorem v_X10_tiredAll_4 {g : mm_G} (d : Nat) {a0 : Nat} {i1 : Int32} {i2 : Int32} {σ : mm_S} {res : Int32 × mm_S}  (h_a0 : (mm_K a0).1 = 10) (h : f_X10_tiredAll_4 a0 i1 i2 σ = some res) : SV g (d + 1) yy_X10_tiredAll 4 [(0, .ref a0), (1, .int i1), (2, .int i2)] [] σ (.int res.1) res.2 := by
  unfold f_X10_tiredAll_4 at h
  refine lp_ind (P := fun v σ => SV g (d + 1) yy_X10_tiredAll 4 [(0, .ref a0), (1, .int v.1), (2, .int v.2)] [] σ (.int res.1) res.2) (fun k4 H4 v σ h => ?_) _ (i1, i2) σ h
  refine e_iload_n 2 dX10_tiredAll_4 rfl rfl ?_
  refine e_aload_n 0 dX10_tiredAll_5 rfl rfl ?_
  refine s_getr dX10_tiredAll_6 fl_RX10_39 h_a0 (r_10_20 h_a0).1 ?_
  refine e_iconst (v := (3 : Int32)) dX10_tiredAll_9 (by decide) ?_
  obtain ⟨q1, h⟩ := gd_some h
  refine s_iald dX10_tiredAll_10 (r_10_20 (w := 0) h_a0).2 q1 ?_
  refine e_icmp_ge 28 dX10_tiredAll_11 (by decide) (fun c2 => ?_) (fun c2 => ?_)
  · rw [if_pos c2] at h
    refine e_iload_n 1 dX10_tiredAll_28 rfl rfl ?_
    obtain rfl := Option.some.inj h
    exact s_ret rfl ⟨_, rfl, rfl⟩ dX10_tiredAll_29
  · rw [if_neg c2] at h
    refine e_iload_n 1 dX10_tiredAll_14 rfl rfl ?_
    refine e_aload_n 0 dX10_tiredAll_15 rfl rfl ?_
    refine e_iload_n 2 dX10_tiredAll_16 rfl rfl ?_
    obtain ⟨r5, σ4, q3, h⟩ := bd_some h
    refine s_callVi [.int v.2] dX10_tiredAll_17 ml_RX10_308 h_a0 ⟨_, rfl, by decide⟩ rfl (v_X10_tiredOf (d + 0) h_a0 q3) (Nat.le_of_ble_eq_true rfl) ?_
    refine e_iadd dX10_tiredAll_20 ?_
    obtain ⟨x6, q7, h⟩ := lt_some h
    refine s_nmi q7 ?_
    refine e_istore_n (L' := [(0, .ref a0), (1, .int x6), (2, .int v.2)]) dX10_tiredAll_21 rfl (by decide) rfl ?_
    obtain ⟨x8, q9, h⟩ := lt_some h
    refine e_iinc (v := x8) (L' := [(0, .ref a0), (1, .int x6), (2, .int x8)]) 2 dX10_tiredAll_22 rfl q9.symm (by decide) rfl ?_
    refine e_goto 4 dX10_tiredAll_25 (by decide) ?_
    refine s_pick (L' := [(0, .ref a0), (1, .int x6), (2, .int x8)]) [0, 1, 2] rfl ?_
    exact H4 (x6, x8) σ4 h
def f_X10_tiredAll (a0 : Nat) (σ : mm_S) : Option (Int32 × mm_S) :=
    f_X10_tiredAll_4 a0 (0 : Int32) (0 : Int32) σ
theorem v_X10_tiredAll {g : mm_G} (d : Nat) {a0 : Nat} {σ : mm_S} {res : Int32 × mm_S} (h_a0 : (mm_K a0).1 = 10) (h : f_X10_tiredAll a0 σ = some res) : SM g (d + 1) yy_X10_tiredAll [.ref a0] σ (.int res.1) res.2 := by
  refine s_of (by decide) (Nat.le_of_ble_eq_true rfl) (L := [(0, .ref a0)]) rfl ?_
  unfold f_X10_tiredAll at h
  refine e_iconst (v := (0 : Int32)) dX10_tiredAll_0 (by decide) ?_
  refine e_istore_n (L' := [(0, .ref a0), (1, .int (0 : Int32))]) dX10_tiredAll_1 rfl (by decide) rfl ?_
  refine e_iconst (v := (0 : Int32)) dX10_tiredAll_2 (by decide) ?_
  refine e_istore_n (L' := [(0, .ref a0), (1, .int (0 : Int32)), (2, .int (0 : Int32))]) dX10_tiredAll_3 rfl (by decide) rfl ?_
  refine s_pick (L' := [(0, .ref a0), (1, .int (0 : Int32)), (2, .int (0 : Int32))]) [0, 1, 2] rfl ?_
  exact v_X10_tiredAll_4 d h_a0 h
abbrev yy_X10_sleptAll : mm_Y := (yX10_sleptAll, cX10_sleptAll, 3, (some .int))
theorem dX10_sleptAll_0 : decode cX10_sleptAll 0 = .ok (.iconst 0, 1) := by decide +kernel
theorem dX10_sleptAll_1 : decode cX10_sleptAll 1 = .ok (.istore_n 1, 1) := by decide +kernel
theorem dX10_sleptAll_2 : decode cX10_sleptAll 2 = .ok (.iconst 0, 1) := by decide +kernel
theorem dX10_sleptAll_3 : decode cX10_sleptAll 3 = .ok (.istore_n 2, 1) := by decide +kernel
theorem dX10_sleptAll_4 : decode cX10_sleptAll 4 = .ok (.iload_n 2, 1) := by decide +kernel
theorem dX10_sleptAll_5 : decode cX10_sleptAll 5 = .ok (.aload_n 0, 1) := by decide +kernel
theorem dX10_sleptAll_6 : decode cX10_sleptAll 6 = .ok (.getfield 39, 3) := by decide +kernel
theorem dX10_sleptAll_9 : decode cX10_sleptAll 9 = .ok (.iconst 3, 1) := by decide +kernel
theorem dX10_sleptAll_10 : decode cX10_sleptAll 10 = .ok (.iaload, 1) := by decide +kernel
theorem dX10_sleptAll_11 : decode cX10_sleptAll 11 = .ok (.if_icmp .ge 17, 3) := by decide +kernel
theorem dX10_sleptAll_14 : decode cX10_sleptAll 14 = .ok (.iload_n 1, 1) := by decide +kernel
theorem dX10_sleptAll_15 : decode cX10_sleptAll 15 = .ok (.aload_n 0, 1) := by decide +kernel
theorem dX10_sleptAll_16 : decode cX10_sleptAll 16 = .ok (.iload_n 2, 1) := by decide +kernel
theorem dX10_sleptAll_17 : decode cX10_sleptAll 17 = .ok (.invokevirtual 311, 3) := by decide +kernel
theorem dX10_sleptAll_20 : decode cX10_sleptAll 20 = .ok (.iadd, 1) := by decide +kernel
theorem dX10_sleptAll_21 : decode cX10_sleptAll 21 = .ok (.istore_n 1, 1) := by decide +kernel
theorem dX10_sleptAll_22 : decode cX10_sleptAll 22 = .ok (.iinc 2 1, 3) := by decide +kernel
theorem dX10_sleptAll_25 : decode cX10_sleptAll 25 = .ok (.goto (-21), 3) := by decide +kernel
theorem dX10_sleptAll_28 : decode cX10_sleptAll 28 = .ok (.iload_n 1, 1) := by decide +kernel
theorem dX10_sleptAll_29 : decode cX10_sleptAll 29 = .ok (.ireturn, 1) := by decide +kernel
def f_X10_sleptAll_4 (a0 : Nat) (i1 : Int32) (i2 : Int32) (σ : mm_S) : Option (Int32 × mm_S) :=
  lp lpN (fun (k4 : (Int32 × Int32) → mm_S → Option (Int32 × mm_S)) (v : Int32 × Int32) (σ : mm_S) =>
    gd (3 : Int32) 121 <|
    if (σ.1 224 (3 : Int32).toNatClampNeg) ≤ v.2 then
      some (v.1, σ)
    else
      bd (f_X10_sleptBy a0 v.2 σ) fun r5 σ4 =>
      lt ((v.1 + r5)) fun x6 =>
      lt (v.2 + Int32.ofInt (1)) fun x8 =>
      k4 (x6, x8) σ4) (i1, i2) σ
theorem v_X10_sleptAll_4 {g : mm_G} (d : Nat) {a0 : Nat} {i1 : Int32} {i2 : Int32} {σ : mm_S} {res : Int32 × mm_S}  (h_a0 : (mm_K a0).1 = 10) (h : f_X10_sleptAll_4 a0 i1 i2 σ = some res) : SV g (d + 1) yy_X10_sleptAll 4 [(0, .ref a0), (1, .int i1), (2, .int i2)] [] σ (.int res.1) res.2 := by
  unfold f_X10_sleptAll_4 at h
  refine lp_ind (P := fun v σ => SV g (d + 1) yy_X10_sleptAll 4 [(0, .ref a0), (1, .int v.1), (2, .int v.2)] [] σ (.int res.1) res.2) (fun k4 H4 v σ h => ?_) _ (i1, i2) σ h
  refine e_iload_n 2 dX10_sleptAll_4 rfl rfl ?_
  refine e_aload_n 0 dX10_sleptAll_5 rfl rfl ?_
  refine s_getr dX10_sleptAll_6 fl_RX10_39 h_a0 (r_10_20 h_a0).1 ?_
  refine e_iconst (v := (3 : Int32)) dX10_sleptAll_9 (by decide) ?_
  obtain ⟨q1, h⟩ := gd_some h
  refine s_iald dX10_sleptAll_10 (r_10_20 (w := 0) h_a0).2 q1 ?_
  refine e_icmp_ge 28 dX10_sleptAll_11 (by decide) (fun c2 => ?_) (fun c2 => ?_)
  · rw [if_pos c2] at h
    refine e_iload_n 1 dX10_sleptAll_28 rfl rfl ?_
    obtain rfl := Option.some.inj h
    exact s_ret rfl ⟨_, rfl, rfl⟩ dX10_sleptAll_29
  · rw [if_neg c2] at h
    refine e_iload_n 1 dX10_sleptAll_14 rfl rfl ?_
    refine e_aload_n 0 dX10_sleptAll_15 rfl rfl ?_
    refine e_iload_n 2 dX10_sleptAll_16 rfl rfl ?_
    obtain ⟨r5, σ4, q3, h⟩ := bd_some h
    refine s_callVi [.int v.2] dX10_sleptAll_17 ml_RX10_311 h_a0 ⟨_, rfl, by decide⟩ rfl (v_X10_sleptBy (d + 0) h_a0 q3) (Nat.le_of_ble_eq_true rfl) ?_
    refine e_iadd dX10_sleptAll_20 ?_
    obtain ⟨x6, q7, h⟩ := lt_some h
    refine s_nmi q7 ?_
    refine e_istore_n (L' := [(0, .ref a0), (1, .int x6), (2, .int v.2)]) dX10_sleptAll_21 rfl (by decide) rfl ?_
    obtain ⟨x8, q9, h⟩ := lt_some h
    refine e_iinc (v := x8) (L' := [(0, .ref a0), (1, .int x6), (2, .int x8)]) 2 dX10_sleptAll_22 rfl q9.symm (by decide) rfl ?_
    refine e_goto 4 dX10_sleptAll_25 (by decide) ?_
    refine s_pick (L' := [(0, .ref a0), (1, .int x6), (2, .int x8)]) [0, 1, 2] rfl ?_
    exact H4 (x6, x8) σ4 h
def f_X10_sleptAll (a0 : Nat) (σ : mm_S) : Option (Int32 × mm_S) :=
    f_X10_sleptAll_4 a0 (0 : Int32) (0 : Int32) σ
theorem v_X10_sleptAll {g : mm_G} (d : Nat) {a0 : Nat} {σ : mm_S} {res : Int32 × mm_S} (h_a0 : (mm_K a0).1 = 10) (h : f_X10_sleptAll a0 σ = some res) : SM g (d + 1) yy_X10_sleptAll [.ref a0] σ (.int res.1) res.2 := by
  refine s_of (by decide) (Nat.le_of_ble_eq_true rfl) (L := [(0, .ref a0)]) rfl ?_
  unfold f_X10_sleptAll at h
  refine e_iconst (v := (0 : Int32)) dX10_sleptAll_0 (by decide) ?_
  refine e_istore_n (L' := [(0, .ref a0), (1, .int (0 : Int32))]) dX10_sleptAll_1 rfl (by decide) rfl ?_
  refine e_iconst (v := (0 : Int32)) dX10_sleptAll_2 (by decide) ?_
  refine e_istore_n (L' := [(0, .ref a0), (1, .int (0 : Int32)), (2, .int (0 : Int32))]) dX10_sleptAll_3 rfl (by decide) rfl ?_
  refine s_pick (L' := [(0, .ref a0), (1, .int (0 : Int32)), (2, .int (0 : Int32))]) [0, 1, 2] rfl ?_
  exact v_X10_sleptAll_4 d h_a0 h
abbrev yy_X10_isCounted : mm_Y := (yX10_isCounted, cX10_isCounted, 1, (some .boolean))
theorem dX10_isCounted_0 : decode cX10_isCounted 0 = .ok (.aload_n 0, 1) := by decide +kernel
theorem dX10_isCounted_1 : decode cX10_isCounted 1 = .ok (.getfield 39, 3) := by decide +kernel
theorem dX10_isCounted_4 : decode cX10_isCounted 4 = .ok (.bipush 89, 2) := by decide +kernel
theorem dX10_isCounted_6 : decode cX10_isCounted 6 = .ok (.iaload, 1) := by decide +kernel
theorem dX10_isCounted_7 : decode cX10_isCounted 7 = .ok (.aload_n 0, 1) := by decide +kernel
theorem dX10_isCounted_8 : decode cX10_isCounted 8 = .ok (.getfield 39, 3) := by decide +kernel
theorem dX10_isCounted_11 : decode cX10_isCounted 11 = .ok (.bipush 10, 2) := by decide +kernel
theorem dX10_isCounted_13 : decode cX10_isCounted 13 = .ok (.iaload, 1) := by decide +kernel
theorem dX10_isCounted_14 : decode cX10_isCounted 14 = .ok (.bipush 12, 2) := by decide +kernel
theorem dX10_isCounted_16 : decode cX10_isCounted 16 = .ok (.irem, 1) := by decide +kernel
theorem dX10_isCounted_17 : decode cX10_isCounted 17 = .ok (.invokestatic 314, 3) := by decide +kernel
theorem dX10_isCounted_20 : decode cX10_isCounted 20 = .ok (.ireturn, 1) := by decide +kernel
def f_X10_isCounted (a0 : Nat) (σ : mm_S) : Option (Int32 × mm_S) :=
    gd (89 : Int32) 121 <|
    gd (10 : Int32) 121 <|
    bd (f_X10_isOf (σ.1 224 (89 : Int32).toNatClampNeg) ((σ.1 224 (10 : Int32).toNatClampNeg) - (σ.1 224 (10 : Int32).toNatClampNeg) / (12 : Int32) * (12 : Int32)) σ) fun r11 σ10 =>
    gb r11 <|
    some (r11, σ10)
theorem v_X10_isCounted {g : mm_G} (d : Nat) {a0 : Nat} {σ : mm_S} {res : Int32 × mm_S} (h_a0 : (mm_K a0).1 = 10) (h : f_X10_isCounted a0 σ = some res) : SM g (d + 1) yy_X10_isCounted [.ref a0] σ (.int res.1) res.2 := by
  refine s_of (by decide) (Nat.le_of_ble_eq_true rfl) (L := [(0, .ref a0)]) rfl ?_
  unfold f_X10_isCounted at h
  refine e_aload_n 0 dX10_isCounted_0 rfl rfl ?_
  refine s_getr dX10_isCounted_1 fl_RX10_39 h_a0 (r_10_20 h_a0).1 ?_
  refine e_bipush (v := (89 : Int32)) dX10_isCounted_4 (by decide) ?_
  obtain ⟨q7, h⟩ := gd_some h
  refine s_iald dX10_isCounted_6 (r_10_20 (w := 0) h_a0).2 q7 ?_
  refine e_aload_n 0 dX10_isCounted_7 rfl rfl ?_
  refine s_getr dX10_isCounted_8 fl_RX10_39 h_a0 (r_10_20 h_a0).1 ?_
  refine e_bipush (v := (10 : Int32)) dX10_isCounted_11 (by decide) ?_
  obtain ⟨q8, h⟩ := gd_some h
  refine s_iald dX10_isCounted_13 (r_10_20 (w := 0) h_a0).2 q8 ?_
  refine e_bipush (v := (12 : Int32)) dX10_isCounted_14 (by decide) ?_
  refine e_irem dX10_isCounted_16 (by decide) ?_
  obtain ⟨r11, σ10, q9, h⟩ := bd_some h
  refine s_callSi [.int (σ.1 224 (89 : Int32).toNatClampNeg), .int ((σ.1 224 (10 : Int32).toNatClampNeg) - (σ.1 224 (10 : Int32).toNatClampNeg) / (12 : Int32) * (12 : Int32))] dX10_isCounted_17 ml_RX10_314 ⟨_, rfl, by decide⟩ rfl (v_X10_isOf (d + 0)  q9) (Nat.le_of_ble_eq_true rfl) ?_
  obtain ⟨q12, h⟩ := gb_some h
  obtain rfl := Option.some.inj h
  exact s_ret rfl ⟨_, rfl, nb1 q12⟩ dX10_isCounted_20
