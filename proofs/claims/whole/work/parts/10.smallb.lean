abbrev yy_X1_countsAt : mm_Y := (yX1_countsAt, cX1_countsAt, 2, (some .boolean))
theorem dX1_countsAt_0 : decode cX1_countsAt 0 = .ok (.aload_n 0, 1) := by decide +kernel
theorem dX1_countsAt_1 : decode cX1_countsAt 1 = .ok (.getfield 35, 3) := by decide +kernel
theorem dX1_countsAt_4 : decode cX1_countsAt 4 = .ok (.iload_n 1, 1) := by decide +kernel
theorem dX1_countsAt_5 : decode cX1_countsAt 5 = .ok (.bipush 12, 2) := by decide +kernel
theorem dX1_countsAt_7 : decode cX1_countsAt 7 = .ok (.irem, 1) := by decide +kernel
theorem dX1_countsAt_8 : decode cX1_countsAt 8 = .ok (.ishr, 1) := by decide +kernel
theorem dX1_countsAt_9 : decode cX1_countsAt 9 = .ok (.iconst 1, 1) := by decide +kernel
theorem dX1_countsAt_10 : decode cX1_countsAt 10 = .ok (.iand, 1) := by decide +kernel
theorem dX1_countsAt_11 : decode cX1_countsAt 11 = .ok (.iconst 1, 1) := by decide +kernel
theorem dX1_countsAt_12 : decode cX1_countsAt 12 = .ok (.if_icmp .ne 7, 3) := by decide +kernel
theorem dX1_countsAt_15 : decode cX1_countsAt 15 = .ok (.iconst 1, 1) := by decide +kernel
theorem dX1_countsAt_16 : decode cX1_countsAt 16 = .ok (.goto 4, 3) := by decide +kernel
theorem dX1_countsAt_19 : decode cX1_countsAt 19 = .ok (.iconst 0, 1) := by decide +kernel
theorem dX1_countsAt_20 : decode cX1_countsAt 20 = .ok (.ireturn, 1) := by decide +kernel
def f_X1_countsAt (a0 : Nat) (i1 : Int32) (σ : mm_S) : Option (Int32 × mm_S) :=
    if (((σ.1 a0 4) >>> ((i1 - i1 / (12 : Int32) * (12 : Int32)) &&& 31)) &&& (1 : Int32)) = (1 : Int32) then
      some ((1 : Int32), σ)
    else
      some ((0 : Int32), σ)
theorem v_X1_countsAt {g : mm_G} (d : Nat) {a0 : Nat} {i1 : Int32} {σ : mm_S} {res : Int32 × mm_S} (h_a0 : (mm_K a0).1 = 1) (h : f_X1_countsAt a0 i1 σ = some res) : SM g (d + 0) yy_X1_countsAt [.ref a0, .int i1] σ (.int res.1) res.2 := by
  refine s_of (by decide) (Nat.le_of_ble_eq_true rfl) (L := [(0, .ref a0), (1, .int i1)]) rfl ?_
  unfold f_X1_countsAt at h
  refine e_aload_n 0 dX1_countsAt_0 rfl rfl ?_
  refine s_geti dX1_countsAt_1 fl_RX1_35 h_a0 ?_
  refine e_iload_n 1 dX1_countsAt_4 rfl rfl ?_
  refine e_bipush (v := (12 : Int32)) dX1_countsAt_5 (by decide) ?_
  refine e_irem dX1_countsAt_7 (by decide) ?_
  refine e_ishr dX1_countsAt_8 ?_
  refine e_iconst (v := (1 : Int32)) dX1_countsAt_9 (by decide) ?_
  refine e_iand dX1_countsAt_10 ?_
  refine e_iconst (v := (1 : Int32)) dX1_countsAt_11 (by decide) ?_
  refine e_icmp_ne 19 dX1_countsAt_12 (by decide) (fun c2 => ?_) (fun c2 => ?_)
  · rw [if_neg c2] at h
    refine e_iconst (v := (0 : Int32)) dX1_countsAt_19 (by decide) ?_
    obtain rfl := Option.some.inj h
    exact s_ret rfl ⟨_, rfl, nb1 (Or.inl rfl)⟩ dX1_countsAt_20
  · rw [if_pos c2] at h
    refine e_iconst (v := (1 : Int32)) dX1_countsAt_15 (by decide) ?_
    refine e_goto 20 dX1_countsAt_16 (by decide) ?_
    obtain rfl := Option.some.inj h
    exact s_ret rfl ⟨_, rfl, nb1 (Or.inr rfl)⟩ dX1_countsAt_20
abbrev yy_X2_begin : mm_Y := (yX2_begin, cX2_begin, 2, none)
theorem dX2_begin_0 : decode cX2_begin 0 = .ok (.aload_n 0, 1) := by decide +kernel
theorem dX2_begin_1 : decode cX2_begin 1 = .ok (.iconst 0, 1) := by decide +kernel
theorem dX2_begin_2 : decode cX2_begin 2 = .ok (.putfield 30, 3) := by decide +kernel
theorem dX2_begin_5 : decode cX2_begin 5 = .ok (.aload_n 0, 1) := by decide +kernel
theorem dX2_begin_6 : decode cX2_begin 6 = .ok (.iconst 0, 1) := by decide +kernel
theorem dX2_begin_7 : decode cX2_begin 7 = .ok (.putfield 34, 3) := by decide +kernel
theorem dX2_begin_10 : decode cX2_begin 10 = .ok (.aload_n 1, 1) := by decide +kernel
theorem dX2_begin_11 : decode cX2_begin 11 = .ok (.getfield 37, 3) := by decide +kernel
theorem dX2_begin_14 : decode cX2_begin 14 = .ok (.iconst 0, 1) := by decide +kernel
theorem dX2_begin_15 : decode cX2_begin 15 = .ok (.aload_n 0, 1) := by decide +kernel
theorem dX2_begin_16 : decode cX2_begin 16 = .ok (.getfield 9, 3) := by decide +kernel
theorem dX2_begin_19 : decode cX2_begin 19 = .ok (.iconst 0, 1) := by decide +kernel
theorem dX2_begin_20 : decode cX2_begin 20 = .ok (.bipush 6, 2) := by decide +kernel
theorem dX2_begin_22 : decode cX2_begin 22 = .ok (.invokestatic 40, 3) := by decide +kernel
theorem dX2_begin_25 : decode cX2_begin 25 = .ok (.aload_n 1, 1) := by decide +kernel
theorem dX2_begin_26 : decode cX2_begin 26 = .ok (.getfield 46, 3) := by decide +kernel
theorem dX2_begin_29 : decode cX2_begin 29 = .ok (.iconst 0, 1) := by decide +kernel
theorem dX2_begin_30 : decode cX2_begin 30 = .ok (.aload_n 0, 1) := by decide +kernel
theorem dX2_begin_31 : decode cX2_begin 31 = .ok (.getfield 15, 3) := by decide +kernel
theorem dX2_begin_34 : decode cX2_begin 34 = .ok (.iconst 0, 1) := by decide +kernel
theorem dX2_begin_35 : decode cX2_begin 35 = .ok (.bipush 6, 2) := by decide +kernel
theorem dX2_begin_37 : decode cX2_begin 37 = .ok (.invokestatic 40, 3) := by decide +kernel
theorem dX2_begin_40 : decode cX2_begin 40 = .ok (.aload_n 0, 1) := by decide +kernel
theorem dX2_begin_41 : decode cX2_begin 41 = .ok (.getfield 18, 3) := by decide +kernel
theorem dX2_begin_44 : decode cX2_begin 44 = .ok (.iconst (-1), 1) := by decide +kernel
theorem dX2_begin_45 : decode cX2_begin 45 = .ok (.invokestatic 24, 3) := by decide +kernel
theorem dX2_begin_48 : decode cX2_begin 48 = .ok (.aload_n 0, 1) := by decide +kernel
theorem dX2_begin_49 : decode cX2_begin 49 = .ok (.getfield 21, 3) := by decide +kernel
theorem dX2_begin_52 : decode cX2_begin 52 = .ok (.iconst 0, 1) := by decide +kernel
theorem dX2_begin_53 : decode cX2_begin 53 = .ok (.invokestatic 24, 3) := by decide +kernel
theorem dX2_begin_56 : decode cX2_begin 56 = .ok (.return_, 1) := by decide +kernel
def f_X2_begin (a0 : Nat) (a1 : Nat) (σ : mm_S) : Option (mm_S) :=
    lt (su_i σ a0 0 (0 : Int32)) fun σ13 =>
    lt (su_i σ13 a0 1 (0 : Int32)) fun σ15 =>
    lt (su_c σ15 (a1 + 1) 0 (a0 + 1) 0 6) fun σ17 =>
    lt (su_c σ17 (a1 + 2) 0 (a0 + 2) 0 6) fun σ19 =>
    bv (f_J7_fill_53178 (a0 + 3) (-1 : Int32) σ19) fun σ22 =>
    bv (f_J7_fill_53178 (a0 + 4) (0 : Int32) σ22) fun σ24 =>
    some σ24
theorem v_X2_begin {g : mm_G} (d : Nat) {a0 : Nat} {a1 : Nat} {σ : mm_S} {res : mm_S} (h_a0 : (mm_K a0).1 = 2) (h_a1 : (mm_K a1).1 = 1) (h : f_X2_begin a0 a1 σ = some res) : SM g (d + 1) yy_X2_begin [.ref a0, .ref a1] σ .null res := by
  refine s_of (by decide) (Nat.le_of_ble_eq_true rfl) (L := [(0, .ref a0), (1, .ref a1)]) rfl ?_
  unfold f_X2_begin at h
  refine e_aload_n 0 dX2_begin_0 rfl rfl ?_
  refine e_iconst (v := (0 : Int32)) dX2_begin_1 (by decide) ?_
  refine s_puti dX2_begin_2 fl_RX2_30 h_a0 rfl rfl rfl ?_
  obtain ⟨σ13, q14, h⟩ := lt_some h
  refine s_nms q14 ?_
  refine e_aload_n 0 dX2_begin_5 rfl rfl ?_
  refine e_iconst (v := (0 : Int32)) dX2_begin_6 (by decide) ?_
  refine s_puti dX2_begin_7 fl_RX2_34 h_a0 rfl rfl rfl ?_
  obtain ⟨σ15, q16, h⟩ := lt_some h
  refine s_nms q16 ?_
  refine e_aload_n 1 dX2_begin_10 rfl rfl ?_
  refine s_getr dX2_begin_11 fl_RX2_37 h_a1 (r_1_5 h_a1).1 ?_
  refine e_iconst (v := (0 : Int32)) dX2_begin_14 (by decide) ?_
  refine e_aload_n 0 dX2_begin_15 rfl rfl ?_
  refine s_getr dX2_begin_16 fl_RX2_9 h_a0 (r_2_2 h_a0).1 ?_
  refine e_iconst (v := (0 : Int32)) dX2_begin_19 (by decide) ?_
  refine e_bipush (v := (6 : Int32)) dX2_begin_20 (by decide) ?_
  refine s_copy dX2_begin_22 cp_RX2_40 (r_1_5 (w := 0) h_a1).2 (r_2_2 (w := 0) h_a0).2 (by decide) (by decide) (by decide) (by decide) (by decide) (by decide) ?_
  obtain ⟨σ17, q18, h⟩ := lt_some h
  refine s_nms q18 ?_
  refine e_aload_n 1 dX2_begin_25 rfl rfl ?_
  refine s_getr dX2_begin_26 fl_RX2_46 h_a1 (r_1_6 h_a1).1 ?_
  refine e_iconst (v := (0 : Int32)) dX2_begin_29 (by decide) ?_
  refine e_aload_n 0 dX2_begin_30 rfl rfl ?_
  refine s_getr dX2_begin_31 fl_RX2_15 h_a0 (r_2_3 h_a0).1 ?_
  refine e_iconst (v := (0 : Int32)) dX2_begin_34 (by decide) ?_
  refine e_bipush (v := (6 : Int32)) dX2_begin_35 (by decide) ?_
  refine s_copy dX2_begin_37 cp_RX2_40 (r_1_6 (w := 0) h_a1).2 (r_2_3 (w := 0) h_a0).2 (by decide) (by decide) (by decide) (by decide) (by decide) (by decide) ?_
  obtain ⟨σ19, q20, h⟩ := lt_some h
  refine s_nms q20 ?_
  refine e_aload_n 0 dX2_begin_40 rfl rfl ?_
  refine s_getr dX2_begin_41 fl_RX2_18 h_a0 (r_2_4 h_a0).1 ?_
  refine e_iconst (v := (-1 : Int32)) dX2_begin_44 (by decide) ?_
  obtain ⟨σ22, q21, h⟩ := bv_some h
  refine s_callSv [.ref (a0 + 3), .int (-1 : Int32)] dX2_begin_45 ml_RX2_24 rfl rfl (v_J7_fill_53178 (d + 0) (ka_1 (r_2_4 (w := 0) h_a0).2) q21) (Nat.le_of_ble_eq_true rfl) ?_
  refine e_aload_n 0 dX2_begin_48 rfl rfl ?_
  refine s_getr dX2_begin_49 fl_RX2_21 h_a0 (r_2_5 h_a0).1 ?_
  refine e_iconst (v := (0 : Int32)) dX2_begin_52 (by decide) ?_
  obtain ⟨σ24, q23, h⟩ := bv_some h
  refine s_callSv [.ref (a0 + 4), .int (0 : Int32)] dX2_begin_53 ml_RX2_24 rfl rfl (v_J7_fill_53178 (d + 0) (ka_1 (r_2_5 (w := 0) h_a0).2) q23) (Nat.le_of_ble_eq_true rfl) ?_
  obtain rfl := Option.some.inj h
  exact s_ret rfl rfl dX2_begin_56
abbrev yy_X2_isIn : mm_Y := (yX2_isIn, cX2_isIn, 2, (some .boolean))
theorem dX2_isIn_0 : decode cX2_isIn 0 = .ok (.aload_n 0, 1) := by decide +kernel
theorem dX2_isIn_1 : decode cX2_isIn 1 = .ok (.getfield 34, 3) := by decide +kernel
theorem dX2_isIn_4 : decode cX2_isIn 4 = .ok (.iload_n 1, 1) := by decide +kernel
theorem dX2_isIn_5 : decode cX2_isIn 5 = .ok (.ishr, 1) := by decide +kernel
theorem dX2_isIn_6 : decode cX2_isIn 6 = .ok (.iconst 1, 1) := by decide +kernel
theorem dX2_isIn_7 : decode cX2_isIn 7 = .ok (.iand, 1) := by decide +kernel
theorem dX2_isIn_8 : decode cX2_isIn 8 = .ok (.iconst 1, 1) := by decide +kernel
theorem dX2_isIn_9 : decode cX2_isIn 9 = .ok (.if_icmp .ne 7, 3) := by decide +kernel
theorem dX2_isIn_12 : decode cX2_isIn 12 = .ok (.iconst 1, 1) := by decide +kernel
theorem dX2_isIn_13 : decode cX2_isIn 13 = .ok (.goto 4, 3) := by decide +kernel
theorem dX2_isIn_16 : decode cX2_isIn 16 = .ok (.iconst 0, 1) := by decide +kernel
theorem dX2_isIn_17 : decode cX2_isIn 17 = .ok (.ireturn, 1) := by decide +kernel
def f_X2_isIn (a0 : Nat) (i1 : Int32) (σ : mm_S) : Option (Int32 × mm_S) :=
    if (((σ.1 a0 1) >>> (i1 &&& 31)) &&& (1 : Int32)) = (1 : Int32) then
      some ((1 : Int32), σ)
    else
      some ((0 : Int32), σ)
theorem v_X2_isIn {g : mm_G} (d : Nat) {a0 : Nat} {i1 : Int32} {σ : mm_S} {res : Int32 × mm_S} (h_a0 : (mm_K a0).1 = 2) (h : f_X2_isIn a0 i1 σ = some res) : SM g (d + 0) yy_X2_isIn [.ref a0, .int i1] σ (.int res.1) res.2 := by
  refine s_of (by decide) (Nat.le_of_ble_eq_true rfl) (L := [(0, .ref a0), (1, .int i1)]) rfl ?_
  unfold f_X2_isIn at h
  refine e_aload_n 0 dX2_isIn_0 rfl rfl ?_
  refine s_geti dX2_isIn_1 fl_RX2_34 h_a0 ?_
  refine e_iload_n 1 dX2_isIn_4 rfl rfl ?_
  refine e_ishr dX2_isIn_5 ?_
  refine e_iconst (v := (1 : Int32)) dX2_isIn_6 (by decide) ?_
  refine e_iand dX2_isIn_7 ?_
  refine e_iconst (v := (1 : Int32)) dX2_isIn_8 (by decide) ?_
  refine e_icmp_ne 16 dX2_isIn_9 (by decide) (fun c2 => ?_) (fun c2 => ?_)
  · rw [if_neg c2] at h
    refine e_iconst (v := (0 : Int32)) dX2_isIn_16 (by decide) ?_
    obtain rfl := Option.some.inj h
    exact s_ret rfl ⟨_, rfl, nb1 (Or.inl rfl)⟩ dX2_isIn_17
  · rw [if_pos c2] at h
    refine e_iconst (v := (1 : Int32)) dX2_isIn_12 (by decide) ?_
    refine e_goto 17 dX2_isIn_13 (by decide) ?_
    obtain rfl := Option.some.inj h
    exact s_ret rfl ⟨_, rfl, nb1 (Or.inr rfl)⟩ dX2_isIn_17
abbrev yy_X2_sought : mm_Y := (yX2_sought, cX2_sought, 3, (some .int))
theorem dX2_sought_0 : decode cX2_sought 0 = .ok (.iconst 0, 1) := by decide +kernel
theorem dX2_sought_1 : decode cX2_sought 1 = .ok (.istore_n 1, 1) := by decide +kernel
theorem dX2_sought_2 : decode cX2_sought 2 = .ok (.iconst 0, 1) := by decide +kernel
theorem dX2_sought_3 : decode cX2_sought 3 = .ok (.istore_n 2, 1) := by decide +kernel
theorem dX2_sought_4 : decode cX2_sought 4 = .ok (.iload_n 2, 1) := by decide +kernel
theorem dX2_sought_5 : decode cX2_sought 5 = .ok (.bipush 6, 2) := by decide +kernel
theorem dX2_sought_7 : decode cX2_sought 7 = .ok (.if_icmp .ge 29, 3) := by decide +kernel
theorem dX2_sought_10 : decode cX2_sought 10 = .ok (.aload_n 0, 1) := by decide +kernel
theorem dX2_sought_11 : decode cX2_sought 11 = .ok (.getfield 18, 3) := by decide +kernel
theorem dX2_sought_14 : decode cX2_sought 14 = .ok (.iload_n 2, 1) := by decide +kernel
theorem dX2_sought_15 : decode cX2_sought 15 = .ok (.iaload, 1) := by decide +kernel
theorem dX2_sought_16 : decode cX2_sought 16 = .ok (.ifCond .lt 14, 3) := by decide +kernel
theorem dX2_sought_19 : decode cX2_sought 19 = .ok (.iload_n 1, 1) := by decide +kernel
theorem dX2_sought_20 : decode cX2_sought 20 = .ok (.iconst 1, 1) := by decide +kernel
theorem dX2_sought_21 : decode cX2_sought 21 = .ok (.aload_n 0, 1) := by decide +kernel
theorem dX2_sought_22 : decode cX2_sought 22 = .ok (.getfield 18, 3) := by decide +kernel
theorem dX2_sought_25 : decode cX2_sought 25 = .ok (.iload_n 2, 1) := by decide +kernel
theorem dX2_sought_26 : decode cX2_sought 26 = .ok (.iaload, 1) := by decide +kernel
theorem dX2_sought_27 : decode cX2_sought 27 = .ok (.ishl, 1) := by decide +kernel
theorem dX2_sought_28 : decode cX2_sought 28 = .ok (.ior, 1) := by decide +kernel
theorem dX2_sought_29 : decode cX2_sought 29 = .ok (.istore_n 1, 1) := by decide +kernel
theorem dX2_sought_30 : decode cX2_sought 30 = .ok (.iinc 2 1, 3) := by decide +kernel
theorem dX2_sought_33 : decode cX2_sought 33 = .ok (.goto (-29), 3) := by decide +kernel
theorem dX2_sought_36 : decode cX2_sought 36 = .ok (.iload_n 1, 1) := by decide +kernel
theorem dX2_sought_37 : decode cX2_sought 37 = .ok (.ireturn, 1) := by decide +kernel
def f_X2_sought_4 (a0 : Nat) (i1 : Int32) (i2 : Int32) (σ : mm_S) : Option (Int32 × mm_S) :=
  lp lpN (fun (k4 : (Int32 × Int32) → mm_S → Option (Int32 × mm_S)) (v : Int32 × Int32) (σ : mm_S) =>
    if (6 : Int32) ≤ v.2 then
      some (v.1, σ)
    else
      gd v.2 6 <|
      if (σ.1 (a0 + 3) v.2.toNatClampNeg) < 0 then
        lt (v.2 + Int32.ofInt (1)) fun x4 =>
        k4 (v.1, x4) σ
      else
        gd v.2 6 <|
        lt ((v.1 ||| ((1 : Int32) <<< ((σ.1 (a0 + 3) v.2.toNatClampNeg) &&& 31)))) fun x7 =>
        lt (v.2 + Int32.ofInt (1)) fun x9 =>
        k4 (x7, x9) σ) (i1, i2) σ
theorem v_X2_sought_4 {g : mm_G} (d : Nat) {a0 : Nat} {i1 : Int32} {i2 : Int32} {σ : mm_S} {res : Int32 × mm_S}  (h_a0 : (mm_K a0).1 = 2) (h : f_X2_sought_4 a0 i1 i2 σ = some res) : SV g (d + 0) yy_X2_sought 4 [(0, .ref a0), (1, .int i1), (2, .int i2)] [] σ (.int res.1) res.2 := by
  unfold f_X2_sought_4 at h
  refine lp_ind (P := fun v σ => SV g (d + 0) yy_X2_sought 4 [(0, .ref a0), (1, .int v.1), (2, .int v.2)] [] σ (.int res.1) res.2) (fun k4 H4 v σ h => ?_) _ (i1, i2) σ h
  refine e_iload_n 2 dX2_sought_4 rfl rfl ?_
  refine e_bipush (v := (6 : Int32)) dX2_sought_5 (by decide) ?_
  refine e_icmp_ge 36 dX2_sought_7 (by decide) (fun c1 => ?_) (fun c1 => ?_)
  · rw [if_pos c1] at h
    refine e_iload_n 1 dX2_sought_36 rfl rfl ?_
    obtain rfl := Option.some.inj h
    exact s_ret rfl ⟨_, rfl, rfl⟩ dX2_sought_37
  · rw [if_neg c1] at h
    refine e_aload_n 0 dX2_sought_10 rfl rfl ?_
    refine s_getr dX2_sought_11 fl_RX2_18 h_a0 (r_2_4 h_a0).1 ?_
    refine e_iload_n 2 dX2_sought_14 rfl rfl ?_
    obtain ⟨q2, h⟩ := gd_some h
    refine s_iald dX2_sought_15 (r_2_4 (w := 0) h_a0).2 q2 ?_
    refine e_if_lt 30 dX2_sought_16 (by decide) (fun c3 => ?_) (fun c3 => ?_)
    · rw [if_pos c3] at h
      obtain ⟨x4, q5, h⟩ := lt_some h
      refine e_iinc (v := x4) (L' := [(0, .ref a0), (1, .int v.1), (2, .int x4)]) 2 dX2_sought_30 rfl q5.symm (by decide) rfl ?_
      refine e_goto 4 dX2_sought_33 (by decide) ?_
      refine s_pick (L' := [(0, .ref a0), (1, .int v.1), (2, .int x4)]) [0, 1, 2] rfl ?_
      exact H4 (v.1, x4) σ h
    · rw [if_neg c3] at h
      refine e_iload_n 1 dX2_sought_19 rfl rfl ?_
      refine e_iconst (v := (1 : Int32)) dX2_sought_20 (by decide) ?_
      refine e_aload_n 0 dX2_sought_21 rfl rfl ?_
      refine s_getr dX2_sought_22 fl_RX2_18 h_a0 (r_2_4 h_a0).1 ?_
      refine e_iload_n 2 dX2_sought_25 rfl rfl ?_
      obtain ⟨q6, h⟩ := gd_some h
      refine s_iald dX2_sought_26 (r_2_4 (w := 0) h_a0).2 q6 ?_
      refine e_ishl dX2_sought_27 ?_
      refine e_ior dX2_sought_28 ?_
      obtain ⟨x7, q8, h⟩ := lt_some h
      refine s_nmi q8 ?_
      refine e_istore_n (L' := [(0, .ref a0), (1, .int x7), (2, .int v.2)]) dX2_sought_29 rfl (by decide) rfl ?_
      obtain ⟨x9, q10, h⟩ := lt_some h
      refine e_iinc (v := x9) (L' := [(0, .ref a0), (1, .int x7), (2, .int x9)]) 2 dX2_sought_30 rfl q10.symm (by decide) rfl ?_
      refine e_goto 4 dX2_sought_33 (by decide) ?_
      refine s_pick (L' := [(0, .ref a0), (1, .int x7), (2, .int x9)]) [0, 1, 2] rfl ?_
      exact H4 (x7, x9) σ h
def f_X2_sought (a0 : Nat) (σ : mm_S) : Option (Int32 × mm_S) :=
    f_X2_sought_4 a0 (0 : Int32) (0 : Int32) σ
theorem v_X2_sought {g : mm_G} (d : Nat) {a0 : Nat} {σ : mm_S} {res : Int32 × mm_S} (h_a0 : (mm_K a0).1 = 2) (h : f_X2_sought a0 σ = some res) : SM g (d + 0) yy_X2_sought [.ref a0] σ (.int res.1) res.2 := by
  refine s_of (by decide) (Nat.le_of_ble_eq_true rfl) (L := [(0, .ref a0)]) rfl ?_
  unfold f_X2_sought at h
  refine e_iconst (v := (0 : Int32)) dX2_sought_0 (by decide) ?_
  refine e_istore_n (L' := [(0, .ref a0), (1, .int (0 : Int32))]) dX2_sought_1 rfl (by decide) rfl ?_
  refine e_iconst (v := (0 : Int32)) dX2_sought_2 (by decide) ?_
  refine e_istore_n (L' := [(0, .ref a0), (1, .int (0 : Int32)), (2, .int (0 : Int32))]) dX2_sought_3 rfl (by decide) rfl ?_
  refine s_pick (L' := [(0, .ref a0), (1, .int (0 : Int32)), (2, .int (0 : Int32))]) [0, 1, 2] rfl ?_
  exact v_X2_sought_4 d h_a0 h
abbrev yy_X2_figure : mm_Y := (yX2_figure, cX2_figure, 3, (some .int))
theorem dX2_figure_0 : decode cX2_figure 0 = .ok (.aload_n 0, 1) := by decide +kernel
theorem dX2_figure_1 : decode cX2_figure 1 = .ok (.getfield 34, 3) := by decide +kernel
theorem dX2_figure_4 : decode cX2_figure 4 = .ok (.istore_n 1, 1) := by decide +kernel
theorem dX2_figure_5 : decode cX2_figure 5 = .ok (.iconst 0, 1) := by decide +kernel
theorem dX2_figure_6 : decode cX2_figure 6 = .ok (.istore_n 2, 1) := by decide +kernel
theorem dX2_figure_7 : decode cX2_figure 7 = .ok (.iload_n 2, 1) := by decide +kernel
theorem dX2_figure_8 : decode cX2_figure 8 = .ok (.bipush 6, 2) := by decide +kernel
theorem dX2_figure_10 : decode cX2_figure 10 = .ok (.if_icmp .ge 23, 3) := by decide +kernel
theorem dX2_figure_13 : decode cX2_figure 13 = .ok (.iload_n 1, 1) := by decide +kernel
theorem dX2_figure_14 : decode cX2_figure 14 = .ok (.bipush 8, 2) := by decide +kernel
theorem dX2_figure_16 : decode cX2_figure 16 = .ok (.imul, 1) := by decide +kernel
theorem dX2_figure_17 : decode cX2_figure 17 = .ok (.aload_n 0, 1) := by decide +kernel
theorem dX2_figure_18 : decode cX2_figure 18 = .ok (.getfield 18, 3) := by decide +kernel
theorem dX2_figure_21 : decode cX2_figure 21 = .ok (.iload_n 2, 1) := by decide +kernel
theorem dX2_figure_22 : decode cX2_figure 22 = .ok (.iaload, 1) := by decide +kernel
theorem dX2_figure_23 : decode cX2_figure 23 = .ok (.iadd, 1) := by decide +kernel
theorem dX2_figure_24 : decode cX2_figure 24 = .ok (.iconst 1, 1) := by decide +kernel
theorem dX2_figure_25 : decode cX2_figure 25 = .ok (.iadd, 1) := by decide +kernel
theorem dX2_figure_26 : decode cX2_figure 26 = .ok (.istore_n 1, 1) := by decide +kernel
theorem dX2_figure_27 : decode cX2_figure 27 = .ok (.iinc 2 1, 3) := by decide +kernel
theorem dX2_figure_30 : decode cX2_figure 30 = .ok (.goto (-23), 3) := by decide +kernel
theorem dX2_figure_33 : decode cX2_figure 33 = .ok (.iload_n 1, 1) := by decide +kernel
theorem dX2_figure_34 : decode cX2_figure 34 = .ok (.ireturn, 1) := by decide +kernel
def f_X2_figure_7 (a0 : Nat) (i1 : Int32) (i2 : Int32) (σ : mm_S) : Option (Int32 × mm_S) :=
  lp lpN (fun (k7 : (Int32 × Int32) → mm_S → Option (Int32 × mm_S)) (v : Int32 × Int32) (σ : mm_S) =>
    if (6 : Int32) ≤ v.2 then
      some (v.1, σ)
    else
      gd v.2 6 <|
      lt ((((v.1 * (8 : Int32)) + (σ.1 (a0 + 3) v.2.toNatClampNeg)) + (1 : Int32))) fun x3 =>
      lt (v.2 + Int32.ofInt (1)) fun x5 =>
      k7 (x3, x5) σ) (i1, i2) σ
theorem v_X2_figure_7 {g : mm_G} (d : Nat) {a0 : Nat} {i1 : Int32} {i2 : Int32} {σ : mm_S} {res : Int32 × mm_S}  (h_a0 : (mm_K a0).1 = 2) (h : f_X2_figure_7 a0 i1 i2 σ = some res) : SV g (d + 0) yy_X2_figure 7 [(0, .ref a0), (1, .int i1), (2, .int i2)] [] σ (.int res.1) res.2 := by
  unfold f_X2_figure_7 at h
  refine lp_ind (P := fun v σ => SV g (d + 0) yy_X2_figure 7 [(0, .ref a0), (1, .int v.1), (2, .int v.2)] [] σ (.int res.1) res.2) (fun k7 H7 v σ h => ?_) _ (i1, i2) σ h
  refine e_iload_n 2 dX2_figure_7 rfl rfl ?_
  refine e_bipush (v := (6 : Int32)) dX2_figure_8 (by decide) ?_
  refine e_icmp_ge 33 dX2_figure_10 (by decide) (fun c1 => ?_) (fun c1 => ?_)
  · rw [if_pos c1] at h
    refine e_iload_n 1 dX2_figure_33 rfl rfl ?_
    obtain rfl := Option.some.inj h
    exact s_ret rfl ⟨_, rfl, rfl⟩ dX2_figure_34
  · rw [if_neg c1] at h
    refine e_iload_n 1 dX2_figure_13 rfl rfl ?_
    refine e_bipush (v := (8 : Int32)) dX2_figure_14 (by decide) ?_
    refine e_imul dX2_figure_16 ?_
    refine e_aload_n 0 dX2_figure_17 rfl rfl ?_
    refine s_getr dX2_figure_18 fl_RX2_18 h_a0 (r_2_4 h_a0).1 ?_
    refine e_iload_n 2 dX2_figure_21 rfl rfl ?_
    obtain ⟨q2, h⟩ := gd_some h
    refine s_iald dX2_figure_22 (r_2_4 (w := 0) h_a0).2 q2 ?_
    refine e_iadd dX2_figure_23 ?_
    refine e_iconst (v := (1 : Int32)) dX2_figure_24 (by decide) ?_
    refine e_iadd dX2_figure_25 ?_
    obtain ⟨x3, q4, h⟩ := lt_some h
    refine s_nmi q4 ?_
    refine e_istore_n (L' := [(0, .ref a0), (1, .int x3), (2, .int v.2)]) dX2_figure_26 rfl (by decide) rfl ?_
    obtain ⟨x5, q6, h⟩ := lt_some h
    refine e_iinc (v := x5) (L' := [(0, .ref a0), (1, .int x3), (2, .int x5)]) 2 dX2_figure_27 rfl q6.symm (by decide) rfl ?_
    refine e_goto 7 dX2_figure_30 (by decide) ?_
    refine s_pick (L' := [(0, .ref a0), (1, .int x3), (2, .int x5)]) [0, 1, 2] rfl ?_
    exact H7 (x3, x5) σ h
def f_X2_figure (a0 : Nat) (σ : mm_S) : Option (Int32 × mm_S) :=
    lt ((σ.1 a0 1)) fun x9 =>
    f_X2_figure_7 a0 x9 (0 : Int32) σ
theorem v_X2_figure {g : mm_G} (d : Nat) {a0 : Nat} {σ : mm_S} {res : Int32 × mm_S} (h_a0 : (mm_K a0).1 = 2) (h : f_X2_figure a0 σ = some res) : SM g (d + 0) yy_X2_figure [.ref a0] σ (.int res.1) res.2 := by
  refine s_of (by decide) (Nat.le_of_ble_eq_true rfl) (L := [(0, .ref a0)]) rfl ?_
  unfold f_X2_figure at h
  refine e_aload_n 0 dX2_figure_0 rfl rfl ?_
  refine s_geti dX2_figure_1 fl_RX2_34 h_a0 ?_
  obtain ⟨x9, q10, h⟩ := lt_some h
  refine s_nmi q10 ?_
  refine e_istore_n (L' := [(0, .ref a0), (1, .int x9)]) dX2_figure_4 rfl (by decide) rfl ?_
  refine e_iconst (v := (0 : Int32)) dX2_figure_5 (by decide) ?_
  refine e_istore_n (L' := [(0, .ref a0), (1, .int x9), (2, .int (0 : Int32))]) dX2_figure_6 rfl (by decide) rfl ?_
  refine s_pick (L' := [(0, .ref a0), (1, .int x9), (2, .int (0 : Int32))]) [0, 1, 2] rfl ?_
  exact v_X2_figure_7 d h_a0 h
abbrev yy_X2_tireBy : mm_Y := (yX2_tireBy, cX2_tireBy, 3, none)
theorem dX2_tireBy_0 : decode cX2_tireBy 0 = .ok (.aload_n 0, 1) := by decide +kernel
theorem dX2_tireBy_1 : decode cX2_tireBy 1 = .ok (.getfield 9, 3) := by decide +kernel
theorem dX2_tireBy_4 : decode cX2_tireBy 4 = .ok (.iload_n 1, 1) := by decide +kernel
theorem dX2_tireBy_5 : decode cX2_tireBy 5 = .ok (.aload_n 0, 1) := by decide +kernel
theorem dX2_tireBy_6 : decode cX2_tireBy 6 = .ok (.getfield 9, 3) := by decide +kernel
theorem dX2_tireBy_9 : decode cX2_tireBy 9 = .ok (.iload_n 1, 1) := by decide +kernel
theorem dX2_tireBy_10 : decode cX2_tireBy 10 = .ok (.iaload, 1) := by decide +kernel
theorem dX2_tireBy_11 : decode cX2_tireBy 11 = .ok (.iload_n 2, 1) := by decide +kernel
theorem dX2_tireBy_12 : decode cX2_tireBy 12 = .ok (.iadd, 1) := by decide +kernel
theorem dX2_tireBy_13 : decode cX2_tireBy 13 = .ok (.bipush 99, 2) := by decide +kernel
theorem dX2_tireBy_15 : decode cX2_tireBy 15 = .ok (.invokestatic 47, 3) := by decide +kernel
theorem dX2_tireBy_18 : decode cX2_tireBy 18 = .ok (.iastore, 1) := by decide +kernel
theorem dX2_tireBy_19 : decode cX2_tireBy 19 = .ok (.return_, 1) := by decide +kernel
def f_X2_tireBy (a0 : Nat) (i1 : Int32) (i2 : Int32) (σ : mm_S) : Option (mm_S) :=
    gd i1 6 <|
    lt ((if (99 : Int32) < ((σ.1 (a0 + 1) i1.toNatClampNeg) + i2) then (99 : Int32) else ((σ.1 (a0 + 1) i1.toNatClampNeg) + i2))) fun x8 =>
    gd i1 6 <|
    lt (su_i σ (a0 + 1) i1.toNatClampNeg x8) fun σ11 =>
    some σ11
theorem v_X2_tireBy {g : mm_G} (d : Nat) {a0 : Nat} {i1 : Int32} {i2 : Int32} {σ : mm_S} {res : mm_S} (h_a0 : (mm_K a0).1 = 2) (h : f_X2_tireBy a0 i1 i2 σ = some res) : SM g (d + 1) yy_X2_tireBy [.ref a0, .int i1, .int i2] σ .null res := by
  refine s_of (by decide) (Nat.le_of_ble_eq_true rfl) (L := [(0, .ref a0), (1, .int i1), (2, .int i2)]) rfl ?_
  unfold f_X2_tireBy at h
  refine e_aload_n 0 dX2_tireBy_0 rfl rfl ?_
  refine s_getr dX2_tireBy_1 fl_RX2_9 h_a0 (r_2_2 h_a0).1 ?_
  refine e_iload_n 1 dX2_tireBy_4 rfl rfl ?_
  refine e_aload_n 0 dX2_tireBy_5 rfl rfl ?_
  refine s_getr dX2_tireBy_6 fl_RX2_9 h_a0 (r_2_2 h_a0).1 ?_
  refine e_iload_n 1 dX2_tireBy_9 rfl rfl ?_
  obtain ⟨q7, h⟩ := gd_some h
  refine s_iald dX2_tireBy_10 (r_2_2 (w := 0) h_a0).2 q7 ?_
  refine e_iload_n 2 dX2_tireBy_11 rfl rfl ?_
  refine e_iadd dX2_tireBy_12 ?_
  refine e_bipush (v := (99 : Int32)) dX2_tireBy_13 (by decide) ?_
  refine s_mmin dX2_tireBy_15 mx_RX2_47 (Nat.le_of_ble_eq_true rfl) ?_
  obtain ⟨x8, q9, h⟩ := lt_some h
  refine s_nmi q9 ?_
  obtain ⟨q10, h⟩ := gd_some h
  refine s_iast dX2_tireBy_18 (r_2_2 (w := 0) h_a0).2 q10 ?_
  obtain ⟨σ11, q12, h⟩ := lt_some h
  refine s_nms q12 ?_
  obtain rfl := Option.some.inj h
  exact s_ret rfl rfl dX2_tireBy_19
abbrev yy_X2_give : mm_Y := (yX2_give, cX2_give, 4, none)
theorem dX2_give_0 : decode cX2_give 0 = .ok (.aload_n 0, 1) := by decide +kernel
theorem dX2_give_1 : decode cX2_give 1 = .ok (.getfield 15, 3) := by decide +kernel
theorem dX2_give_4 : decode cX2_give 4 = .ok (.iload_n 1, 1) := by decide +kernel
theorem dX2_give_5 : decode cX2_give 5 = .ok (.dup2, 1) := by decide +kernel
theorem dX2_give_6 : decode cX2_give 6 = .ok (.iaload, 1) := by decide +kernel
theorem dX2_give_7 : decode cX2_give 7 = .ok (.iload_n 3, 1) := by decide +kernel
theorem dX2_give_8 : decode cX2_give 8 = .ok (.isub, 1) := by decide +kernel
theorem dX2_give_9 : decode cX2_give 9 = .ok (.iastore, 1) := by decide +kernel
theorem dX2_give_10 : decode cX2_give 10 = .ok (.aload_n 0, 1) := by decide +kernel
theorem dX2_give_11 : decode cX2_give 11 = .ok (.getfield 15, 3) := by decide +kernel
theorem dX2_give_14 : decode cX2_give 14 = .ok (.iload_n 2, 1) := by decide +kernel
theorem dX2_give_15 : decode cX2_give 15 = .ok (.aload_n 0, 1) := by decide +kernel
theorem dX2_give_16 : decode cX2_give 16 = .ok (.getfield 15, 3) := by decide +kernel
theorem dX2_give_19 : decode cX2_give 19 = .ok (.iload_n 2, 1) := by decide +kernel
theorem dX2_give_20 : decode cX2_give 20 = .ok (.iaload, 1) := by decide +kernel
theorem dX2_give_21 : decode cX2_give 21 = .ok (.iload_n 3, 1) := by decide +kernel
theorem dX2_give_22 : decode cX2_give 22 = .ok (.iadd, 1) := by decide +kernel
theorem dX2_give_23 : decode cX2_give 23 = .ok (.sipush 999, 3) := by decide +kernel
theorem dX2_give_26 : decode cX2_give 26 = .ok (.invokestatic 47, 3) := by decide +kernel
theorem dX2_give_29 : decode cX2_give 29 = .ok (.iastore, 1) := by decide +kernel
theorem dX2_give_30 : decode cX2_give 30 = .ok (.return_, 1) := by decide +kernel
def f_X2_give (a0 : Nat) (i1 : Int32) (i2 : Int32) (i3 : Int32) (σ : mm_S) : Option (mm_S) :=
    gd i1 6 <|
    gd i1 6 <|
    lt (su_i σ (a0 + 2) i1.toNatClampNeg ((σ.1 (a0 + 2) i1.toNatClampNeg) - i3)) fun σ13 =>
    gd i2 6 <|
    lt ((if (999 : Int32) < ((σ13.1 (a0 + 2) i2.toNatClampNeg) + i3) then (999 : Int32) else ((σ13.1 (a0 + 2) i2.toNatClampNeg) + i3))) fun x16 =>
    gd i2 6 <|
    lt (su_i σ13 (a0 + 2) i2.toNatClampNeg x16) fun σ19 =>
    some σ19
theorem v_X2_give {g : mm_G} (d : Nat) {a0 : Nat} {i1 : Int32} {i2 : Int32} {i3 : Int32} {σ : mm_S} {res : mm_S} (h_a0 : (mm_K a0).1 = 2) (h : f_X2_give a0 i1 i2 i3 σ = some res) : SM g (d + 1) yy_X2_give [.ref a0, .int i1, .int i2, .int i3] σ .null res := by
  refine s_of (by decide) (Nat.le_of_ble_eq_true rfl) (L := [(0, .ref a0), (1, .int i1), (2, .int i2), (3, .int i3)]) rfl ?_
  unfold f_X2_give at h
  refine e_aload_n 0 dX2_give_0 rfl rfl ?_
  refine s_getr dX2_give_1 fl_RX2_15 h_a0 (r_2_3 h_a0).1 ?_
  refine e_iload_n 1 dX2_give_4 rfl rfl ?_
  refine e_dup2 dX2_give_5 rfl rfl ?_
  obtain ⟨q11, h⟩ := gd_some h
  refine s_iald dX2_give_6 (r_2_3 (w := 0) h_a0).2 q11 ?_
  refine e_iload_n 3 dX2_give_7 rfl rfl ?_
  refine e_isub dX2_give_8 ?_
  obtain ⟨q12, h⟩ := gd_some h
  refine s_iast dX2_give_9 (r_2_3 (w := 0) h_a0).2 q12 ?_
  obtain ⟨σ13, q14, h⟩ := lt_some h
  refine s_nms q14 ?_
  refine e_aload_n 0 dX2_give_10 rfl rfl ?_
  refine s_getr dX2_give_11 fl_RX2_15 h_a0 (r_2_3 h_a0).1 ?_
  refine e_iload_n 2 dX2_give_14 rfl rfl ?_
  refine e_aload_n 0 dX2_give_15 rfl rfl ?_
  refine s_getr dX2_give_16 fl_RX2_15 h_a0 (r_2_3 h_a0).1 ?_
  refine e_iload_n 2 dX2_give_19 rfl rfl ?_
  obtain ⟨q15, h⟩ := gd_some h
  refine s_iald dX2_give_20 (r_2_3 (w := 0) h_a0).2 q15 ?_
  refine e_iload_n 3 dX2_give_21 rfl rfl ?_
  refine e_iadd dX2_give_22 ?_
  refine e_sipush (v := (999 : Int32)) dX2_give_23 (by decide) ?_
  refine s_mmin dX2_give_26 mx_RX2_47 (Nat.le_of_ble_eq_true rfl) ?_
  obtain ⟨x16, q17, h⟩ := lt_some h
  refine s_nmi q17 ?_
  obtain ⟨q18, h⟩ := gd_some h
  refine s_iast dX2_give_29 (r_2_3 (w := 0) h_a0).2 q18 ?_
  obtain ⟨σ19, q20, h⟩ := lt_some h
  refine s_nms q20 ?_
  obtain rfl := Option.some.inj h
  exact s_ret rfl rfl dX2_give_30
abbrev yy_X3_take : mm_Y := (yX3_take, cX3_take, 2, none)
theorem dX3_take_0 : decode cX3_take 0 = .ok (.aload_n 0, 1) := by decide +kernel
theorem dX3_take_1 : decode cX3_take 1 = .ok (.aload_n 1, 1) := by decide +kernel
theorem dX3_take_2 : decode cX3_take 2 = .ok (.getfield 21, 3) := by decide +kernel
theorem dX3_take_5 : decode cX3_take 5 = .ok (.putfield 21, 3) := by decide +kernel
theorem dX3_take_8 : decode cX3_take 8 = .ok (.aload_n 1, 1) := by decide +kernel
theorem dX3_take_9 : decode cX3_take 9 = .ok (.getfield 9, 3) := by decide +kernel
theorem dX3_take_12 : decode cX3_take 12 = .ok (.iconst 0, 1) := by decide +kernel
theorem dX3_take_13 : decode cX3_take 13 = .ok (.aload_n 0, 1) := by decide +kernel
theorem dX3_take_14 : decode cX3_take 14 = .ok (.getfield 9, 3) := by decide +kernel
theorem dX3_take_17 : decode cX3_take 17 = .ok (.iconst 0, 1) := by decide +kernel
theorem dX3_take_18 : decode cX3_take 18 = .ok (.bipush 10, 2) := by decide +kernel
theorem dX3_take_20 : decode cX3_take 20 = .ok (.invokestatic 25, 3) := by decide +kernel
theorem dX3_take_23 : decode cX3_take 23 = .ok (.aload_n 1, 1) := by decide +kernel
theorem dX3_take_24 : decode cX3_take 24 = .ok (.getfield 15, 3) := by decide +kernel
theorem dX3_take_27 : decode cX3_take 27 = .ok (.iconst 0, 1) := by decide +kernel
theorem dX3_take_28 : decode cX3_take 28 = .ok (.aload_n 0, 1) := by decide +kernel
theorem dX3_take_29 : decode cX3_take 29 = .ok (.getfield 15, 3) := by decide +kernel
theorem dX3_take_32 : decode cX3_take 32 = .ok (.iconst 0, 1) := by decide +kernel
theorem dX3_take_33 : decode cX3_take 33 = .ok (.bipush 10, 2) := by decide +kernel
theorem dX3_take_35 : decode cX3_take 35 = .ok (.invokestatic 25, 3) := by decide +kernel
theorem dX3_take_38 : decode cX3_take 38 = .ok (.aload_n 1, 1) := by decide +kernel
theorem dX3_take_39 : decode cX3_take 39 = .ok (.getfield 18, 3) := by decide +kernel
theorem dX3_take_42 : decode cX3_take 42 = .ok (.iconst 0, 1) := by decide +kernel
theorem dX3_take_43 : decode cX3_take 43 = .ok (.aload_n 0, 1) := by decide +kernel
theorem dX3_take_44 : decode cX3_take 44 = .ok (.getfield 18, 3) := by decide +kernel
theorem dX3_take_47 : decode cX3_take 47 = .ok (.iconst 0, 1) := by decide +kernel
theorem dX3_take_48 : decode cX3_take 48 = .ok (.bipush 10, 2) := by decide +kernel
theorem dX3_take_50 : decode cX3_take 50 = .ok (.invokestatic 25, 3) := by decide +kernel
theorem dX3_take_53 : decode cX3_take 53 = .ok (.return_, 1) := by decide +kernel
def f_X3_take (a0 : Nat) (a1 : Nat) (σ : mm_S) : Option (mm_S) :=
    lt (su_i σ a0 0 (σ.1 a1 0)) fun σ9 =>
    lt (su_c σ9 (a1 + 1) 0 (a0 + 1) 0 10) fun σ11 =>
    lt (su_c σ11 (a1 + 2) 0 (a0 + 2) 0 10) fun σ13 =>
    lt (su_c σ13 (a1 + 3) 0 (a0 + 3) 0 10) fun σ15 =>
    some σ15
theorem v_X3_take {g : mm_G} (d : Nat) {a0 : Nat} {a1 : Nat} {σ : mm_S} {res : mm_S} (h_a0 : (mm_K a0).1 = 3) (h_a1 : (mm_K a1).1 = 3) (h : f_X3_take a0 a1 σ = some res) : SM g (d + 1) yy_X3_take [.ref a0, .ref a1] σ .null res := by
  refine s_of (by decide) (Nat.le_of_ble_eq_true rfl) (L := [(0, .ref a0), (1, .ref a1)]) rfl ?_
  unfold f_X3_take at h
  refine e_aload_n 0 dX3_take_0 rfl rfl ?_
  refine e_aload_n 1 dX3_take_1 rfl rfl ?_
  refine s_geti dX3_take_2 fl_RX3_21 h_a1 ?_
  refine s_puti dX3_take_5 fl_RX3_21 h_a0 rfl rfl rfl ?_
  obtain ⟨σ9, q10, h⟩ := lt_some h
  refine s_nms q10 ?_
  refine e_aload_n 1 dX3_take_8 rfl rfl ?_
  refine s_getr dX3_take_9 fl_RX3_9 h_a1 (r_3_1 h_a1).1 ?_
  refine e_iconst (v := (0 : Int32)) dX3_take_12 (by decide) ?_
  refine e_aload_n 0 dX3_take_13 rfl rfl ?_
  refine s_getr dX3_take_14 fl_RX3_9 h_a0 (r_3_1 h_a0).1 ?_
  refine e_iconst (v := (0 : Int32)) dX3_take_17 (by decide) ?_
  refine e_bipush (v := (10 : Int32)) dX3_take_18 (by decide) ?_
  refine s_copy dX3_take_20 cp_RX3_25 (r_3_1 (w := 0) h_a1).2 (r_3_1 (w := 0) h_a0).2 (by decide) (by decide) (by decide) (by decide) (by decide) (by decide) ?_
  obtain ⟨σ11, q12, h⟩ := lt_some h
  refine s_nms q12 ?_
  refine e_aload_n 1 dX3_take_23 rfl rfl ?_
  refine s_getr dX3_take_24 fl_RX3_15 h_a1 (r_3_2 h_a1).1 ?_
  refine e_iconst (v := (0 : Int32)) dX3_take_27 (by decide) ?_
  refine e_aload_n 0 dX3_take_28 rfl rfl ?_
  refine s_getr dX3_take_29 fl_RX3_15 h_a0 (r_3_2 h_a0).1 ?_
  refine e_iconst (v := (0 : Int32)) dX3_take_32 (by decide) ?_
  refine e_bipush (v := (10 : Int32)) dX3_take_33 (by decide) ?_
  refine s_copy dX3_take_35 cp_RX3_25 (r_3_2 (w := 0) h_a1).2 (r_3_2 (w := 0) h_a0).2 (by decide) (by decide) (by decide) (by decide) (by decide) (by decide) ?_
  obtain ⟨σ13, q14, h⟩ := lt_some h
  refine s_nms q14 ?_
  refine e_aload_n 1 dX3_take_38 rfl rfl ?_
  refine s_getr dX3_take_39 fl_RX3_18 h_a1 (r_3_3 h_a1).1 ?_
  refine e_iconst (v := (0 : Int32)) dX3_take_42 (by decide) ?_
  refine e_aload_n 0 dX3_take_43 rfl rfl ?_
  refine s_getr dX3_take_44 fl_RX3_18 h_a0 (r_3_3 h_a0).1 ?_
  refine e_iconst (v := (0 : Int32)) dX3_take_47 (by decide) ?_
  refine e_bipush (v := (10 : Int32)) dX3_take_48 (by decide) ?_
  refine s_copy dX3_take_50 cp_RX3_25 (r_3_3 (w := 0) h_a1).2 (r_3_3 (w := 0) h_a0).2 (by decide) (by decide) (by decide) (by decide) (by decide) (by decide) ?_
  obtain ⟨σ15, q16, h⟩ := lt_some h
  refine s_nms q16 ?_
  obtain rfl := Option.some.inj h
  exact s_ret rfl rfl dX3_take_53
abbrev yy_X3_add : mm_Y := (yX3_add, cX3_add, 4, none)
theorem dX3_add_0 : decode cX3_add 0 = .ok (.aload_n 0, 1) := by decide +kernel
theorem dX3_add_1 : decode cX3_add 1 = .ok (.getfield 21, 3) := by decide +kernel
theorem dX3_add_4 : decode cX3_add 4 = .ok (.bipush 10, 2) := by decide +kernel
theorem dX3_add_6 : decode cX3_add 6 = .ok (.if_icmp .ge 43, 3) := by decide +kernel
theorem dX3_add_9 : decode cX3_add 9 = .ok (.aload_n 0, 1) := by decide +kernel
theorem dX3_add_10 : decode cX3_add 10 = .ok (.getfield 9, 3) := by decide +kernel
theorem dX3_add_13 : decode cX3_add 13 = .ok (.aload_n 0, 1) := by decide +kernel
theorem dX3_add_14 : decode cX3_add 14 = .ok (.getfield 21, 3) := by decide +kernel
theorem dX3_add_17 : decode cX3_add 17 = .ok (.iload_n 1, 1) := by decide +kernel
theorem dX3_add_18 : decode cX3_add 18 = .ok (.iastore, 1) := by decide +kernel
theorem dX3_add_19 : decode cX3_add 19 = .ok (.aload_n 0, 1) := by decide +kernel
theorem dX3_add_20 : decode cX3_add 20 = .ok (.getfield 15, 3) := by decide +kernel
theorem dX3_add_23 : decode cX3_add 23 = .ok (.aload_n 0, 1) := by decide +kernel
theorem dX3_add_24 : decode cX3_add 24 = .ok (.getfield 21, 3) := by decide +kernel
theorem dX3_add_27 : decode cX3_add 27 = .ok (.iload_n 2, 1) := by decide +kernel
theorem dX3_add_28 : decode cX3_add 28 = .ok (.iastore, 1) := by decide +kernel
theorem dX3_add_29 : decode cX3_add 29 = .ok (.aload_n 0, 1) := by decide +kernel
theorem dX3_add_30 : decode cX3_add 30 = .ok (.getfield 18, 3) := by decide +kernel
theorem dX3_add_33 : decode cX3_add 33 = .ok (.aload_n 0, 1) := by decide +kernel
theorem dX3_add_34 : decode cX3_add 34 = .ok (.getfield 21, 3) := by decide +kernel
theorem dX3_add_37 : decode cX3_add 37 = .ok (.iload_n 3, 1) := by decide +kernel
theorem dX3_add_38 : decode cX3_add 38 = .ok (.iastore, 1) := by decide +kernel
theorem dX3_add_39 : decode cX3_add 39 = .ok (.aload_n 0, 1) := by decide +kernel
theorem dX3_add_40 : decode cX3_add 40 = .ok (.dup, 1) := by decide +kernel
theorem dX3_add_41 : decode cX3_add 41 = .ok (.getfield 21, 3) := by decide +kernel
theorem dX3_add_44 : decode cX3_add 44 = .ok (.iconst 1, 1) := by decide +kernel
theorem dX3_add_45 : decode cX3_add 45 = .ok (.iadd, 1) := by decide +kernel
theorem dX3_add_46 : decode cX3_add 46 = .ok (.putfield 21, 3) := by decide +kernel
theorem dX3_add_49 : decode cX3_add 49 = .ok (.return_, 1) := by decide +kernel
def f_X3_add (a0 : Nat) (i1 : Int32) (i2 : Int32) (i3 : Int32) (σ : mm_S) : Option (mm_S) :=
    if (10 : Int32) ≤ (σ.1 a0 0) then
      some σ
    else
      gd (σ.1 a0 0) 10 <|
      lt (su_i σ (a0 + 1) (σ.1 a0 0).toNatClampNeg i1) fun σ15 =>
      gd (σ15.1 a0 0) 10 <|
      lt (su_i σ15 (a0 + 2) (σ15.1 a0 0).toNatClampNeg i2) fun σ18 =>
      gd (σ18.1 a0 0) 10 <|
      lt (su_i σ18 (a0 + 3) (σ18.1 a0 0).toNatClampNeg i3) fun σ21 =>
      lt (su_i σ21 a0 0 ((σ21.1 a0 0) + (1 : Int32))) fun σ23 =>
      some σ23
theorem v_X3_add {g : mm_G} (d : Nat) {a0 : Nat} {i1 : Int32} {i2 : Int32} {i3 : Int32} {σ : mm_S} {res : mm_S} (h_a0 : (mm_K a0).1 = 3) (h : f_X3_add a0 i1 i2 i3 σ = some res) : SM g (d + 0) yy_X3_add [.ref a0, .int i1, .int i2, .int i3] σ .null res := by
  refine s_of (by decide) (Nat.le_of_ble_eq_true rfl) (L := [(0, .ref a0), (1, .int i1), (2, .int i2), (3, .int i3)]) rfl ?_
  unfold f_X3_add at h
  refine e_aload_n 0 dX3_add_0 rfl rfl ?_
  refine s_geti dX3_add_1 fl_RX3_21 h_a0 ?_
  refine e_bipush (v := (10 : Int32)) dX3_add_4 (by decide) ?_
  refine e_icmp_ge 49 dX3_add_6 (by decide) (fun c13 => ?_) (fun c13 => ?_)
  · rw [if_pos c13] at h
    obtain rfl := Option.some.inj h
    exact s_ret rfl rfl dX3_add_49
  · rw [if_neg c13] at h
    refine e_aload_n 0 dX3_add_9 rfl rfl ?_
    refine s_getr dX3_add_10 fl_RX3_9 h_a0 (r_3_1 h_a0).1 ?_
    refine e_aload_n 0 dX3_add_13 rfl rfl ?_
    refine s_geti dX3_add_14 fl_RX3_21 h_a0 ?_
    refine e_iload_n 1 dX3_add_17 rfl rfl ?_
    obtain ⟨q14, h⟩ := gd_some h
    refine s_iast dX3_add_18 (r_3_1 (w := 0) h_a0).2 q14 ?_
    obtain ⟨σ15, q16, h⟩ := lt_some h
    refine s_nms q16 ?_
    refine e_aload_n 0 dX3_add_19 rfl rfl ?_
    refine s_getr dX3_add_20 fl_RX3_15 h_a0 (r_3_2 h_a0).1 ?_
    refine e_aload_n 0 dX3_add_23 rfl rfl ?_
    refine s_geti dX3_add_24 fl_RX3_21 h_a0 ?_
    refine e_iload_n 2 dX3_add_27 rfl rfl ?_
    obtain ⟨q17, h⟩ := gd_some h
    refine s_iast dX3_add_28 (r_3_2 (w := 0) h_a0).2 q17 ?_
    obtain ⟨σ18, q19, h⟩ := lt_some h
    refine s_nms q19 ?_
    refine e_aload_n 0 dX3_add_29 rfl rfl ?_
    refine s_getr dX3_add_30 fl_RX3_18 h_a0 (r_3_3 h_a0).1 ?_
    refine e_aload_n 0 dX3_add_33 rfl rfl ?_
    refine s_geti dX3_add_34 fl_RX3_21 h_a0 ?_
    refine e_iload_n 3 dX3_add_37 rfl rfl ?_
    obtain ⟨q20, h⟩ := gd_some h
    refine s_iast dX3_add_38 (r_3_3 (w := 0) h_a0).2 q20 ?_
    obtain ⟨σ21, q22, h⟩ := lt_some h
    refine s_nms q22 ?_
    refine e_aload_n 0 dX3_add_39 rfl rfl ?_
    refine e_dup dX3_add_40 rfl ?_
    refine s_geti dX3_add_41 fl_RX3_21 h_a0 ?_
    refine e_iconst (v := (1 : Int32)) dX3_add_44 (by decide) ?_
    refine e_iadd dX3_add_45 ?_
    refine s_puti dX3_add_46 fl_RX3_21 h_a0 rfl rfl rfl ?_
    obtain ⟨σ23, q24, h⟩ := lt_some h
    refine s_nms q24 ?_
    obtain rfl := Option.some.inj h
    exact s_ret rfl rfl dX3_add_49
abbrev yy_X3_areSo : mm_Y := (yX3_areSo, cX3_areSo, 5, (some .boolean))
theorem dX3_areSo_0 : decode cX3_areSo 0 = .ok (.iconst 0, 1) := by decide +kernel
theorem dX3_areSo_1 : decode cX3_areSo 1 = .ok (.istore_n 3, 1) := by decide +kernel
theorem dX3_areSo_2 : decode cX3_areSo 2 = .ok (.iload_n 3, 1) := by decide +kernel
theorem dX3_areSo_3 : decode cX3_areSo 3 = .ok (.aload_n 0, 1) := by decide +kernel
theorem dX3_areSo_4 : decode cX3_areSo 4 = .ok (.getfield 21, 3) := by decide +kernel
theorem dX3_areSo_7 : decode cX3_areSo 7 = .ok (.if_icmp .ge 55, 3) := by decide +kernel
theorem dX3_areSo_10 : decode cX3_areSo 10 = .ok (.iload_n 2, 1) := by decide +kernel
theorem dX3_areSo_11 : decode cX3_areSo 11 = .ok (.aload_n 0, 1) := by decide +kernel
theorem dX3_areSo_12 : decode cX3_areSo 12 = .ok (.getfield 9, 3) := by decide +kernel
theorem dX3_areSo_15 : decode cX3_areSo 15 = .ok (.iload_n 3, 1) := by decide +kernel
theorem dX3_areSo_16 : decode cX3_areSo 16 = .ok (.iaload, 1) := by decide +kernel
theorem dX3_areSo_17 : decode cX3_areSo 17 = .ok (.iadd, 1) := by decide +kernel
theorem dX3_areSo_18 : decode cX3_areSo 18 = .ok (.istore 4, 2) := by decide +kernel
theorem dX3_areSo_20 : decode cX3_areSo 20 = .ok (.iload 4, 2) := by decide +kernel
theorem dX3_areSo_22 : decode cX3_areSo 22 = .ok (.ifCond .lt 32, 3) := by decide +kernel
theorem dX3_areSo_25 : decode cX3_areSo 25 = .ok (.iload 4, 2) := by decide +kernel
theorem dX3_areSo_27 : decode cX3_areSo 27 = .ok (.aload_n 1, 1) := by decide +kernel
theorem dX3_areSo_28 : decode cX3_areSo 28 = .ok (.arraylength, 1) := by decide +kernel
theorem dX3_areSo_29 : decode cX3_areSo 29 = .ok (.if_icmp .ge 25, 3) := by decide +kernel
theorem dX3_areSo_32 : decode cX3_areSo 32 = .ok (.aload_n 1, 1) := by decide +kernel
theorem dX3_areSo_33 : decode cX3_areSo 33 = .ok (.iload 4, 2) := by decide +kernel
theorem dX3_areSo_35 : decode cX3_areSo 35 = .ok (.iaload, 1) := by decide +kernel
theorem dX3_areSo_36 : decode cX3_areSo 36 = .ok (.aload_n 0, 1) := by decide +kernel
theorem dX3_areSo_37 : decode cX3_areSo 37 = .ok (.getfield 15, 3) := by decide +kernel
theorem dX3_areSo_40 : decode cX3_areSo 40 = .ok (.iload_n 3, 1) := by decide +kernel
theorem dX3_areSo_41 : decode cX3_areSo 41 = .ok (.iaload, 1) := by decide +kernel
theorem dX3_areSo_42 : decode cX3_areSo 42 = .ok (.ishr, 1) := by decide +kernel
theorem dX3_areSo_43 : decode cX3_areSo 43 = .ok (.iconst 1, 1) := by decide +kernel
theorem dX3_areSo_44 : decode cX3_areSo 44 = .ok (.iand, 1) := by decide +kernel
theorem dX3_areSo_45 : decode cX3_areSo 45 = .ok (.aload_n 0, 1) := by decide +kernel
theorem dX3_areSo_46 : decode cX3_areSo 46 = .ok (.getfield 18, 3) := by decide +kernel
theorem dX3_areSo_49 : decode cX3_areSo 49 = .ok (.iload_n 3, 1) := by decide +kernel
theorem dX3_areSo_50 : decode cX3_areSo 50 = .ok (.iaload, 1) := by decide +kernel
theorem dX3_areSo_51 : decode cX3_areSo 51 = .ok (.if_icmp .eq 5, 3) := by decide +kernel
theorem dX3_areSo_54 : decode cX3_areSo 54 = .ok (.iconst 0, 1) := by decide +kernel
theorem dX3_areSo_55 : decode cX3_areSo 55 = .ok (.ireturn, 1) := by decide +kernel
theorem dX3_areSo_56 : decode cX3_areSo 56 = .ok (.iinc 3 1, 3) := by decide +kernel
theorem dX3_areSo_59 : decode cX3_areSo 59 = .ok (.goto (-57), 3) := by decide +kernel
theorem dX3_areSo_62 : decode cX3_areSo 62 = .ok (.iconst 1, 1) := by decide +kernel
theorem dX3_areSo_63 : decode cX3_areSo 63 = .ok (.ireturn, 1) := by decide +kernel
def f_X3_areSo_2 (a0 : Nat) (a1 : Nat) (i2 : Int32) (i3 : Int32) (σ : mm_S) : Option (Int32 × mm_S) :=
  lp lpN (fun (k2 : (Int32) → mm_S → Option (Int32 × mm_S)) (v : Int32) (σ : mm_S) =>
    if (σ.1 a0 0) ≤ v then
      some ((1 : Int32), σ)
    else
      gd v 10 <|
      lt ((i2 + (σ.1 (a0 + 1) v.toNatClampNeg))) fun x3 =>
      if x3 < 0 then
        some ((0 : Int32), σ)
      else
        if (Int32.ofNat (mm_K a1).2) ≤ x3 then
          some ((0 : Int32), σ)
        else
          gd x3 (mm_K a1).2 <|
          gd v 10 <|
          gd v 10 <|
          if (((σ.1 a1 x3.toNatClampNeg) >>> ((σ.1 (a0 + 2) v.toNatClampNeg) &&& 31)) &&& (1 : Int32)) = (σ.1 (a0 + 3) v.toNatClampNeg) then
            lt (v + Int32.ofInt (1)) fun x11 =>
            k2 x11 σ
          else
            some ((0 : Int32), σ)) i3 σ
theorem v_X3_areSo_2 {g : mm_G} (d : Nat) {a0 : Nat} {a1 : Nat} {i2 : Int32} {i3 : Int32} {σ : mm_S} {res : Int32 × mm_S}  (h_a0 : (mm_K a0).1 = 3) (h_a1 : (mm_K a1).1 = 12) (h : f_X3_areSo_2 a0 a1 i2 i3 σ = some res) : SV g (d + 0) yy_X3_areSo 2 [(0, .ref a0), (1, .ref a1), (2, .int i2), (3, .int i3)] [] σ (.int res.1) res.2 := by
  unfold f_X3_areSo_2 at h
  refine lp_ind (P := fun v σ => SV g (d + 0) yy_X3_areSo 2 [(0, .ref a0), (1, .ref a1), (2, .int i2), (3, .int v)] [] σ (.int res.1) res.2) (fun k2 H2 v σ h => ?_) _ i3 σ h
  refine e_iload_n 3 dX3_areSo_2 rfl rfl ?_
  refine e_aload_n 0 dX3_areSo_3 rfl rfl ?_
  refine s_geti dX3_areSo_4 fl_RX3_21 h_a0 ?_
  refine e_icmp_ge 62 dX3_areSo_7 (by decide) (fun c1 => ?_) (fun c1 => ?_)
  · rw [if_pos c1] at h
    refine e_iconst (v := (1 : Int32)) dX3_areSo_62 (by decide) ?_
    obtain rfl := Option.some.inj h
    exact s_ret rfl ⟨_, rfl, nb1 (Or.inr rfl)⟩ dX3_areSo_63
  · rw [if_neg c1] at h
    refine e_iload_n 2 dX3_areSo_10 rfl rfl ?_
    refine e_aload_n 0 dX3_areSo_11 rfl rfl ?_
    refine s_getr dX3_areSo_12 fl_RX3_9 h_a0 (r_3_1 h_a0).1 ?_
    refine e_iload_n 3 dX3_areSo_15 rfl rfl ?_
    obtain ⟨q2, h⟩ := gd_some h
    refine s_iald dX3_areSo_16 (r_3_1 (w := 0) h_a0).2 q2 ?_
    refine e_iadd dX3_areSo_17 ?_
    obtain ⟨x3, q4, h⟩ := lt_some h
    refine s_nmi q4 ?_
    refine e_istore (L' := [(0, .ref a0), (1, .ref a1), (2, .int i2), (3, .int v), (4, .int x3)]) dX3_areSo_18  (by decide) rfl ?_
    refine e_iload 4 dX3_areSo_20  rfl ?_
    refine e_if_lt 54 dX3_areSo_22 (by decide) (fun c5 => ?_) (fun c5 => ?_)
    · rw [if_pos c5] at h
      refine e_iconst (v := (0 : Int32)) dX3_areSo_54 (by decide) ?_
      obtain rfl := Option.some.inj h
      exact s_ret rfl ⟨_, rfl, nb1 (Or.inl rfl)⟩ dX3_areSo_55
    · rw [if_neg c5] at h
      refine e_iload 4 dX3_areSo_25  rfl ?_
      refine e_aload_n 1 dX3_areSo_27 rfl rfl ?_
      refine s_alen dX3_areSo_28 (ka_2 h_a1) ⟨by decide, by decide⟩ rfl ?_
      refine e_icmp_ge 54 dX3_areSo_29 (by decide) (fun c6 => ?_) (fun c6 => ?_)
      · rw [if_pos c6] at h
        refine e_iconst (v := (0 : Int32)) dX3_areSo_54 (by decide) ?_
        obtain rfl := Option.some.inj h
        exact s_ret rfl ⟨_, rfl, nb1 (Or.inl rfl)⟩ dX3_areSo_55
      · rw [if_neg c6] at h
        refine e_aload_n 1 dX3_areSo_32 rfl rfl ?_
        refine e_iload 4 dX3_areSo_33  rfl ?_
        obtain ⟨q7, h⟩ := gd_some h
        refine s_iald dX3_areSo_35 (ka_2 h_a1) q7 ?_
        refine e_aload_n 0 dX3_areSo_36 rfl rfl ?_
        refine s_getr dX3_areSo_37 fl_RX3_15 h_a0 (r_3_2 h_a0).1 ?_
        refine e_iload_n 3 dX3_areSo_40 rfl rfl ?_
        obtain ⟨q8, h⟩ := gd_some h
        refine s_iald dX3_areSo_41 (r_3_2 (w := 0) h_a0).2 q8 ?_
        refine e_ishr dX3_areSo_42 ?_
        refine e_iconst (v := (1 : Int32)) dX3_areSo_43 (by decide) ?_
        refine e_iand dX3_areSo_44 ?_
        refine e_aload_n 0 dX3_areSo_45 rfl rfl ?_
        refine s_getr dX3_areSo_46 fl_RX3_18 h_a0 (r_3_3 h_a0).1 ?_
        refine e_iload_n 3 dX3_areSo_49 rfl rfl ?_
        obtain ⟨q9, h⟩ := gd_some h
        refine s_iald dX3_areSo_50 (r_3_3 (w := 0) h_a0).2 q9 ?_
        refine e_icmp_eq 56 dX3_areSo_51 (by decide) (fun c10 => ?_) (fun c10 => ?_)
        · rw [if_pos c10] at h
          obtain ⟨x11, q12, h⟩ := lt_some h
          refine e_iinc (v := x11) (L' := [(0, .ref a0), (1, .ref a1), (2, .int i2), (3, .int x11), (4, .int x3)]) 3 dX3_areSo_56 rfl q12.symm (by decide) rfl ?_
          refine e_goto 2 dX3_areSo_59 (by decide) ?_
          refine s_pick (L' := [(0, .ref a0), (1, .ref a1), (2, .int i2), (3, .int x11)]) [0, 1, 2, 3] rfl ?_
          exact H2 x11 σ h
        · rw [if_neg c10] at h
          refine e_iconst (v := (0 : Int32)) dX3_areSo_54 (by decide) ?_
          obtain rfl := Option.some.inj h
          exact s_ret rfl ⟨_, rfl, nb1 (Or.inl rfl)⟩ dX3_areSo_55
def f_X3_areSo (a0 : Nat) (a1 : Nat) (i2 : Int32) (σ : mm_S) : Option (Int32 × mm_S) :=
    f_X3_areSo_2 a0 a1 i2 (0 : Int32) σ
theorem v_X3_areSo {g : mm_G} (d : Nat) {a0 : Nat} {a1 : Nat} {i2 : Int32} {σ : mm_S} {res : Int32 × mm_S} (h_a0 : (mm_K a0).1 = 3) (h_a1 : (mm_K a1).1 = 12) (h : f_X3_areSo a0 a1 i2 σ = some res) : SM g (d + 0) yy_X3_areSo [.ref a0, .ref a1, .int i2] σ (.int res.1) res.2 := by
  refine s_of (by decide) (Nat.le_of_ble_eq_true rfl) (L := [(0, .ref a0), (1, .ref a1), (2, .int i2)]) rfl ?_
  unfold f_X3_areSo at h
  refine e_iconst (v := (0 : Int32)) dX3_areSo_0 (by decide) ?_
  refine e_istore_n (L' := [(0, .ref a0), (1, .ref a1), (2, .int i2), (3, .int (0 : Int32))]) dX3_areSo_1 rfl (by decide) rfl ?_
  refine s_pick (L' := [(0, .ref a0), (1, .ref a1), (2, .int i2), (3, .int (0 : Int32))]) [0, 1, 2, 3] rfl ?_
  exact v_X3_areSo_2 d h_a0 h_a1 h
