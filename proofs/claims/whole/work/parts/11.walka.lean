abbrev yy_X7_begin : mm_Y := (yX7_begin, cX7_begin, 3, none)
theorem dX7_begin_0 : decode cX7_begin 0 = .ok (.aload_n 0, 1) := by decide +kernel
theorem dX7_begin_1 : decode cX7_begin 1 = .ok (.aload_n 1, 1) := by decide +kernel
theorem dX7_begin_2 : decode cX7_begin 2 = .ok (.putfield 39, 3) := by decide +kernel
theorem dX7_begin_5 : decode cX7_begin 5 = .ok (.aload_n 0, 1) := by decide +kernel
theorem dX7_begin_6 : decode cX7_begin 6 = .ok (.getfield 12, 3) := by decide +kernel
theorem dX7_begin_9 : decode cX7_begin 9 = .ok (.aload_n 2, 1) := by decide +kernel
theorem dX7_begin_10 : decode cX7_begin 10 = .ok (.invokevirtual 43, 3) := by decide +kernel
theorem dX7_begin_13 : decode cX7_begin 13 = .ok (.aload_n 0, 1) := by decide +kernel
theorem dX7_begin_14 : decode cX7_begin 14 = .ok (.aload_n 0, 1) := by decide +kernel
theorem dX7_begin_15 : decode cX7_begin 15 = .ok (.getfield 35, 3) := by decide +kernel
theorem dX7_begin_18 : decode cX7_begin 18 = .ok (.getfield 47, 3) := by decide +kernel
theorem dX7_begin_21 : decode cX7_begin 21 = .ok (.putfield 53, 3) := by decide +kernel
theorem dX7_begin_24 : decode cX7_begin 24 = .ok (.aload_n 0, 1) := by decide +kernel
theorem dX7_begin_25 : decode cX7_begin 25 = .ok (.iconst (-1), 1) := by decide +kernel
theorem dX7_begin_26 : decode cX7_begin 26 = .ok (.putfield 54, 3) := by decide +kernel
theorem dX7_begin_29 : decode cX7_begin 29 = .ok (.aload_n 0, 1) := by decide +kernel
theorem dX7_begin_30 : decode cX7_begin 30 = .ok (.iconst (-1), 1) := by decide +kernel
theorem dX7_begin_31 : decode cX7_begin 31 = .ok (.putfield 57, 3) := by decide +kernel
theorem dX7_begin_34 : decode cX7_begin 34 = .ok (.aload_n 0, 1) := by decide +kernel
theorem dX7_begin_35 : decode cX7_begin 35 = .ok (.getfield 18, 3) := by decide +kernel
theorem dX7_begin_38 : decode cX7_begin 38 = .ok (.iconst (-1), 1) := by decide +kernel
theorem dX7_begin_39 : decode cX7_begin 39 = .ok (.invokestatic 60, 3) := by decide +kernel
theorem dX7_begin_42 : decode cX7_begin 42 = .ok (.return_, 1) := by decide +kernel
def f_X7_begin (a0 : Nat) (a1 : Nat) (a2 : Nat) (σ : mm_S) : Option (mm_S) :=
    lt (su_w σ a1) fun σ13 =>
    bv (f_X2_take 201 a2 σ13) fun σ16 =>
    lt (su_i σ16 a0 3 (σ16.1 27 2)) fun σ17 =>
    lt (su_i σ17 a0 4 (-1 : Int32)) fun σ19 =>
    lt (su_i σ19 a0 5 (-1 : Int32)) fun σ21 =>
    bv (f_J7_fill_53178 206 (-1 : Int32) σ21) fun σ24 =>
    some σ24
theorem v_X7_begin {g : mm_G} (d : Nat) {a0 : Nat} {a1 : Nat} {a2 : Nat} {σ : mm_S} {res : mm_S} (h_a0 : (mm_K a0).1 = 7) (h_a1 : (mm_K a1).1 = 5) (h_a2 : (mm_K a2).1 = 2) (h : f_X7_begin a0 a1 a2 σ = some res) : SM g (d + 2) yy_X7_begin [.ref a0, .ref a1, .ref a2] σ .null res := by
  refine s_of (by decide) (Nat.le_of_ble_eq_true rfl) (L := [(0, .ref a0), (1, .ref a1), (2, .ref a2)]) rfl ?_
  unfold f_X7_begin at h
  refine e_aload_n 0 dX7_begin_0 rfl rfl ?_
  refine e_aload_n 1 dX7_begin_1 rfl rfl ?_
  refine s_pw dX7_begin_2 fl_RX7_39 h_a0 ?_
  obtain ⟨σ13, q14, h⟩ := lt_some h
  refine s_nms q14 ?_
  refine e_aload_n 0 dX7_begin_5 rfl rfl ?_
  refine s_getr dX7_begin_6 fl_RX7_12 h_a0 (r_7_1 h_a0).1 ?_
  refine e_aload_n 2 dX7_begin_9 rfl rfl ?_
  obtain ⟨σ16, q15, h⟩ := bv_some h
  refine s_callVv [.ref a2] dX7_begin_10 ml_RX7_43 (ka_1 (r_7_1 (w := 0) h_a0).2) rfl rfl (v_X2_take (d + 0) (ka_1 (r_7_1 (w := 0) h_a0).2) h_a2 q15) (Nat.le_of_ble_eq_true rfl) ?_
  refine e_aload_n 0 dX7_begin_13 rfl rfl ?_
  refine e_aload_n 0 dX7_begin_14 rfl rfl ?_
  refine s_getr dX7_begin_15 fl_RX7_35 h_a0 (r_7_0 h_a0).1 ?_
  refine s_geti dX7_begin_18 fl_RX7_47 (ka_1 (r_7_0 (w := 0) h_a0).2) ?_
  refine s_puti dX7_begin_21 fl_RX7_53 h_a0 rfl rfl rfl ?_
  obtain ⟨σ17, q18, h⟩ := lt_some h
  refine s_nms q18 ?_
  refine e_aload_n 0 dX7_begin_24 rfl rfl ?_
  refine e_iconst (v := (-1 : Int32)) dX7_begin_25 (by decide) ?_
  refine s_puti dX7_begin_26 fl_RX7_54 h_a0 rfl rfl rfl ?_
  obtain ⟨σ19, q20, h⟩ := lt_some h
  refine s_nms q20 ?_
  refine e_aload_n 0 dX7_begin_29 rfl rfl ?_
  refine e_iconst (v := (-1 : Int32)) dX7_begin_30 (by decide) ?_
  refine s_puti dX7_begin_31 fl_RX7_57 h_a0 rfl rfl rfl ?_
  obtain ⟨σ21, q22, h⟩ := lt_some h
  refine s_nms q22 ?_
  refine e_aload_n 0 dX7_begin_34 rfl rfl ?_
  refine s_getr dX7_begin_35 fl_RX7_18 h_a0 (r_7_6 h_a0).1 ?_
  refine e_iconst (v := (-1 : Int32)) dX7_begin_38 (by decide) ?_
  obtain ⟨σ24, q23, h⟩ := bv_some h
  refine s_callSv [.ref 206, .int (-1 : Int32)] dX7_begin_39 ml_RX7_60 rfl rfl (v_J7_fill_53178 (d + 1) (ka_1 (r_7_6 (w := 0) h_a0).2) q23) (Nat.le_of_ble_eq_true rfl) ?_
  obtain rfl := Option.some.inj h
  exact s_ret rfl rfl dX7_begin_42
abbrev yy_X7_beginAsTold : mm_Y := (yX7_beginAsTold, cX7_beginAsTold, 2, none)
theorem dX7_beginAsTold_0 : decode cX7_beginAsTold 0 = .ok (.aload_n 0, 1) := by decide +kernel
theorem dX7_beginAsTold_1 : decode cX7_beginAsTold 1 = .ok (.getfield 12, 3) := by decide +kernel
theorem dX7_beginAsTold_4 : decode cX7_beginAsTold 4 = .ok (.aload_n 0, 1) := by decide +kernel
theorem dX7_beginAsTold_5 : decode cX7_beginAsTold 5 = .ok (.getfield 35, 3) := by decide +kernel
theorem dX7_beginAsTold_8 : decode cX7_beginAsTold 8 = .ok (.invokevirtual 66, 3) := by decide +kernel
theorem dX7_beginAsTold_11 : decode cX7_beginAsTold 11 = .ok (.aload_n 0, 1) := by decide +kernel
theorem dX7_beginAsTold_12 : decode cX7_beginAsTold 12 = .ok (.aload_n 1, 1) := by decide +kernel
theorem dX7_beginAsTold_13 : decode cX7_beginAsTold 13 = .ok (.aload_n 0, 1) := by decide +kernel
theorem dX7_beginAsTold_14 : decode cX7_beginAsTold 14 = .ok (.getfield 12, 3) := by decide +kernel
theorem dX7_beginAsTold_17 : decode cX7_beginAsTold 17 = .ok (.invokevirtual 70, 3) := by decide +kernel
theorem dX7_beginAsTold_20 : decode cX7_beginAsTold 20 = .ok (.return_, 1) := by decide +kernel
def f_X7_beginAsTold (a0 : Nat) (a1 : Nat) (σ : mm_S) : Option (mm_S) :=
    bv (f_X2_begin 201 27 σ) fun σ6 =>
    bv (f_X7_begin a0 a1 201 σ6) fun σ8 =>
    some σ8
theorem v_X7_beginAsTold {g : mm_G} (d : Nat) {a0 : Nat} {a1 : Nat} {σ : mm_S} {res : mm_S} (h_a0 : (mm_K a0).1 = 7) (h_a1 : (mm_K a1).1 = 5) (h : f_X7_beginAsTold a0 a1 σ = some res) : SM g (d + 3) yy_X7_beginAsTold [.ref a0, .ref a1] σ .null res := by
  refine s_of (by decide) (Nat.le_of_ble_eq_true rfl) (L := [(0, .ref a0), (1, .ref a1)]) rfl ?_
  unfold f_X7_beginAsTold at h
  refine e_aload_n 0 dX7_beginAsTold_0 rfl rfl ?_
  refine s_getr dX7_beginAsTold_1 fl_RX7_12 h_a0 (r_7_1 h_a0).1 ?_
  refine e_aload_n 0 dX7_beginAsTold_4 rfl rfl ?_
  refine s_getr dX7_beginAsTold_5 fl_RX7_35 h_a0 (r_7_0 h_a0).1 ?_
  obtain ⟨σ6, q5, h⟩ := bv_some h
  refine s_callVv [.ref 27] dX7_beginAsTold_8 ml_RX7_66 (ka_1 (r_7_1 (w := 0) h_a0).2) rfl rfl (v_X2_begin (d + 1) (ka_1 (r_7_1 (w := 0) h_a0).2) (ka_1 (r_7_0 (w := 0) h_a0).2) q5) (Nat.le_of_ble_eq_true rfl) ?_
  refine e_aload_n 0 dX7_beginAsTold_11 rfl rfl ?_
  refine e_aload_n 1 dX7_beginAsTold_12 rfl rfl ?_
  refine e_aload_n 0 dX7_beginAsTold_13 rfl rfl ?_
  refine s_getr dX7_beginAsTold_14 fl_RX7_12 h_a0 (r_7_1 h_a0).1 ?_
  obtain ⟨σ8, q7, h⟩ := bv_some h
  refine s_callVv [.ref a1, .ref 201] dX7_beginAsTold_17 ml_RX7_70 h_a0 rfl rfl (v_X7_begin (d + 0) h_a0 h_a1 (ka_1 (r_7_1 (w := 0) h_a0).2) q7) (Nat.le_of_ble_eq_true rfl) ?_
  obtain rfl := Option.some.inj h
  exact s_ret rfl rfl dX7_beginAsTold_20
abbrev yy_X7_goIn : mm_Y := (yX7_goIn, cX7_goIn, 2, none)
theorem dX7_goIn_0 : decode cX7_goIn 0 = .ok (.aload_n 0, 1) := by decide +kernel
theorem dX7_goIn_1 : decode cX7_goIn 1 = .ok (.getfield 12, 3) := by decide +kernel
theorem dX7_goIn_4 : decode cX7_goIn 4 = .ok (.invokevirtual 105, 3) := by decide +kernel
theorem dX7_goIn_7 : decode cX7_goIn 7 = .ok (.istore_n 1, 1) := by decide +kernel
theorem dX7_goIn_8 : decode cX7_goIn 8 = .ok (.aload_n 0, 1) := by decide +kernel
theorem dX7_goIn_9 : decode cX7_goIn 9 = .ok (.getfield 57, 3) := by decide +kernel
theorem dX7_goIn_12 : decode cX7_goIn 12 = .ok (.ifCond .lt 12, 3) := by decide +kernel
theorem dX7_goIn_15 : decode cX7_goIn 15 = .ok (.iload_n 1, 1) := by decide +kernel
theorem dX7_goIn_16 : decode cX7_goIn 16 = .ok (.iconst 1, 1) := by decide +kernel
theorem dX7_goIn_17 : decode cX7_goIn 17 = .ok (.aload_n 0, 1) := by decide +kernel
theorem dX7_goIn_18 : decode cX7_goIn 18 = .ok (.getfield 57, 3) := by decide +kernel
theorem dX7_goIn_21 : decode cX7_goIn 21 = .ok (.ishl, 1) := by decide +kernel
theorem dX7_goIn_22 : decode cX7_goIn 22 = .ok (.ior, 1) := by decide +kernel
theorem dX7_goIn_23 : decode cX7_goIn 23 = .ok (.istore_n 1, 1) := by decide +kernel
theorem dX7_goIn_24 : decode cX7_goIn 24 = .ok (.aload_n 0, 1) := by decide +kernel
theorem dX7_goIn_25 : decode cX7_goIn 25 = .ok (.getfield 54, 3) := by decide +kernel
theorem dX7_goIn_28 : decode cX7_goIn 28 = .ok (.ifCond .lt 14, 3) := by decide +kernel
theorem dX7_goIn_31 : decode cX7_goIn 31 = .ok (.iload_n 1, 1) := by decide +kernel
theorem dX7_goIn_32 : decode cX7_goIn 32 = .ok (.iconst 1, 1) := by decide +kernel
theorem dX7_goIn_33 : decode cX7_goIn 33 = .ok (.aload_n 0, 1) := by decide +kernel
theorem dX7_goIn_34 : decode cX7_goIn 34 = .ok (.getfield 54, 3) := by decide +kernel
theorem dX7_goIn_37 : decode cX7_goIn 37 = .ok (.ishl, 1) := by decide +kernel
theorem dX7_goIn_38 : decode cX7_goIn 38 = .ok (.iconst (-1), 1) := by decide +kernel
theorem dX7_goIn_39 : decode cX7_goIn 39 = .ok (.ixor, 1) := by decide +kernel
theorem dX7_goIn_40 : decode cX7_goIn 40 = .ok (.iand, 1) := by decide +kernel
theorem dX7_goIn_41 : decode cX7_goIn 41 = .ok (.istore_n 1, 1) := by decide +kernel
theorem dX7_goIn_42 : decode cX7_goIn 42 = .ok (.aload_n 0, 1) := by decide +kernel
theorem dX7_goIn_43 : decode cX7_goIn 43 = .ok (.getfield 12, 3) := by decide +kernel
theorem dX7_goIn_46 : decode cX7_goIn 46 = .ok (.aload_n 0, 1) := by decide +kernel
theorem dX7_goIn_47 : decode cX7_goIn 47 = .ok (.getfield 35, 3) := by decide +kernel
theorem dX7_goIn_50 : decode cX7_goIn 50 = .ok (.aload_n 0, 1) := by decide +kernel
theorem dX7_goIn_51 : decode cX7_goIn 51 = .ok (.getfield 12, 3) := by decide +kernel
theorem dX7_goIn_54 : decode cX7_goIn 54 = .ok (.getfield 85, 3) := by decide +kernel
theorem dX7_goIn_57 : decode cX7_goIn 57 = .ok (.invokevirtual 107, 3) := by decide +kernel
theorem dX7_goIn_60 : decode cX7_goIn 60 = .ok (.ifCond .eq 7, 3) := by decide +kernel
theorem dX7_goIn_63 : decode cX7_goIn 63 = .ok (.iconst 0, 1) := by decide +kernel
theorem dX7_goIn_64 : decode cX7_goIn 64 = .ok (.goto 4, 3) := by decide +kernel
theorem dX7_goIn_67 : decode cX7_goIn 67 = .ok (.iload_n 1, 1) := by decide +kernel
theorem dX7_goIn_68 : decode cX7_goIn 68 = .ok (.putfield 111, 3) := by decide +kernel
theorem dX7_goIn_71 : decode cX7_goIn 71 = .ok (.return_, 1) := by decide +kernel
def f_X7_goIn_42 (a0 : Nat) (i1 : Int32) (σ : mm_S) : Option (mm_S) :=
    bd (f_X1_countsAt 27 (σ.1 201 0) σ) fun r3 σ2 =>
    if r3 = 0 then
      lt (su_i σ2 201 1 i1) fun σ5 =>
      some σ5
    else
      lt (su_i σ2 201 1 (0 : Int32)) fun σ7 =>
      some σ7
theorem v_X7_goIn_42 {g : mm_G} (d : Nat) {a0 : Nat} {i1 : Int32} {σ : mm_S} {res : mm_S}  (h_a0 : (mm_K a0).1 = 7) (h : f_X7_goIn_42 a0 i1 σ = some res) : SV g (d + 1) yy_X7_goIn 42 [(0, .ref a0), (1, .int i1)] [] σ .null res := by
  unfold f_X7_goIn_42 at h
  refine e_aload_n 0 dX7_goIn_42 rfl rfl ?_
  refine s_getr dX7_goIn_43 fl_RX7_12 h_a0 (r_7_1 h_a0).1 ?_
  refine e_aload_n 0 dX7_goIn_46 rfl rfl ?_
  refine s_getr dX7_goIn_47 fl_RX7_35 h_a0 (r_7_0 h_a0).1 ?_
  refine e_aload_n 0 dX7_goIn_50 rfl rfl ?_
  refine s_getr dX7_goIn_51 fl_RX7_12 h_a0 (r_7_1 h_a0).1 ?_
  refine s_geti dX7_goIn_54 fl_RX7_85 (ka_1 (r_7_1 (w := 0) h_a0).2) ?_
  obtain ⟨r3, σ2, q1, h⟩ := bd_some h
  refine s_callVi [.int (σ.1 201 0)] dX7_goIn_57 ml_RX7_107 (ka_1 (r_7_0 (w := 0) h_a0).2) ⟨_, rfl, by decide⟩ rfl (v_X1_countsAt (d + 0) (ka_1 (r_7_0 (w := 0) h_a0).2) q1) (Nat.le_of_ble_eq_true rfl) ?_
  refine e_if_eq 67 dX7_goIn_60 (by decide) (fun c4 => ?_) (fun c4 => ?_)
  · rw [if_pos c4] at h
    refine e_iload_n 1 dX7_goIn_67 rfl rfl ?_
    refine s_puti dX7_goIn_68 fl_RX7_111 (ka_1 (r_7_1 (w := 0) h_a0).2) rfl rfl rfl ?_
    obtain ⟨σ5, q6, h⟩ := lt_some h
    refine s_nms q6 ?_
    obtain rfl := Option.some.inj h
    exact s_ret rfl rfl dX7_goIn_71
  · rw [if_neg c4] at h
    refine e_iconst (v := (0 : Int32)) dX7_goIn_63 (by decide) ?_
    refine e_goto 68 dX7_goIn_64 (by decide) ?_
    refine s_puti dX7_goIn_68 fl_RX7_111 (ka_1 (r_7_1 (w := 0) h_a0).2) rfl rfl rfl ?_
    obtain ⟨σ7, q8, h⟩ := lt_some h
    refine s_nms q8 ?_
    obtain rfl := Option.some.inj h
    exact s_ret rfl rfl dX7_goIn_71
def f_X7_goIn_24 (a0 : Nat) (i1 : Int32) (σ : mm_S) : Option (mm_S) :=
    if (σ.1 a0 4) < 0 then
      f_X7_goIn_42 a0 i1 σ
    else
      lt ((i1 &&& (((1 : Int32) <<< ((σ.1 a0 4) &&& 31)) ^^^ (-1 : Int32)))) fun x10 =>
      f_X7_goIn_42 a0 x10 σ
theorem v_X7_goIn_24 {g : mm_G} (d : Nat) {a0 : Nat} {i1 : Int32} {σ : mm_S} {res : mm_S}  (h_a0 : (mm_K a0).1 = 7) (h : f_X7_goIn_24 a0 i1 σ = some res) : SV g (d + 1) yy_X7_goIn 24 [(0, .ref a0), (1, .int i1)] [] σ .null res := by
  unfold f_X7_goIn_24 at h
  refine e_aload_n 0 dX7_goIn_24 rfl rfl ?_
  refine s_geti dX7_goIn_25 fl_RX7_54 h_a0 ?_
  refine e_if_lt 42 dX7_goIn_28 (by decide) (fun c9 => ?_) (fun c9 => ?_)
  · rw [if_pos c9] at h
    refine s_pick (L' := [(0, .ref a0), (1, .int i1)]) [0, 1] rfl ?_
    exact v_X7_goIn_42 d h_a0 h
  · rw [if_neg c9] at h
    refine e_iload_n 1 dX7_goIn_31 rfl rfl ?_
    refine e_iconst (v := (1 : Int32)) dX7_goIn_32 (by decide) ?_
    refine e_aload_n 0 dX7_goIn_33 rfl rfl ?_
    refine s_geti dX7_goIn_34 fl_RX7_54 h_a0 ?_
    refine e_ishl dX7_goIn_37 ?_
    refine e_iconst (v := (-1 : Int32)) dX7_goIn_38 (by decide) ?_
    refine e_ixor dX7_goIn_39 ?_
    refine e_iand dX7_goIn_40 ?_
    obtain ⟨x10, q11, h⟩ := lt_some h
    refine s_nmi q11 ?_
    refine e_istore_n (L' := [(0, .ref a0), (1, .int x10)]) dX7_goIn_41 rfl (by decide) rfl ?_
    refine s_pick (L' := [(0, .ref a0), (1, .int x10)]) [0, 1] rfl ?_
    exact v_X7_goIn_42 d h_a0 h
def f_X7_goIn (a0 : Nat) (σ : mm_S) : Option (mm_S) :=
    bd (f_X2_sought 201 σ) fun r20 σ19 =>
    if (σ19.1 a0 5) < 0 then
      f_X7_goIn_24 a0 r20 σ19
    else
      lt ((r20 ||| ((1 : Int32) <<< ((σ19.1 a0 5) &&& 31)))) fun x22 =>
      f_X7_goIn_24 a0 x22 σ19
theorem v_X7_goIn {g : mm_G} (d : Nat) {a0 : Nat} {σ : mm_S} {res : mm_S} (h_a0 : (mm_K a0).1 = 7) (h : f_X7_goIn a0 σ = some res) : SM g (d + 1) yy_X7_goIn [.ref a0] σ .null res := by
  refine s_of (by decide) (Nat.le_of_ble_eq_true rfl) (L := [(0, .ref a0)]) rfl ?_
  unfold f_X7_goIn at h
  refine e_aload_n 0 dX7_goIn_0 rfl rfl ?_
  refine s_getr dX7_goIn_1 fl_RX7_12 h_a0 (r_7_1 h_a0).1 ?_
  obtain ⟨r20, σ19, q18, h⟩ := bd_some h
  refine s_callVi [] dX7_goIn_4 ml_RX7_105 (ka_1 (r_7_1 (w := 0) h_a0).2) ⟨_, rfl, by decide⟩ rfl (v_X2_sought (d + 0) (ka_1 (r_7_1 (w := 0) h_a0).2) q18) (Nat.le_of_ble_eq_true rfl) ?_
  refine e_istore_n (L' := [(0, .ref a0), (1, .int r20)]) dX7_goIn_7 rfl (by decide) rfl ?_
  refine e_aload_n 0 dX7_goIn_8 rfl rfl ?_
  refine s_geti dX7_goIn_9 fl_RX7_57 h_a0 ?_
  refine e_if_lt 24 dX7_goIn_12 (by decide) (fun c21 => ?_) (fun c21 => ?_)
  · rw [if_pos c21] at h
    refine s_pick (L' := [(0, .ref a0), (1, .int r20)]) [0, 1] rfl ?_
    exact v_X7_goIn_24 d h_a0 h
  · rw [if_neg c21] at h
    refine e_iload_n 1 dX7_goIn_15 rfl rfl ?_
    refine e_iconst (v := (1 : Int32)) dX7_goIn_16 (by decide) ?_
    refine e_aload_n 0 dX7_goIn_17 rfl rfl ?_
    refine s_geti dX7_goIn_18 fl_RX7_57 h_a0 ?_
    refine e_ishl dX7_goIn_21 ?_
    refine e_ior dX7_goIn_22 ?_
    obtain ⟨x22, q23, h⟩ := lt_some h
    refine s_nmi q23 ?_
    refine e_istore_n (L' := [(0, .ref a0), (1, .int x22)]) dX7_goIn_23 rfl (by decide) rfl ?_
    refine s_pick (L' := [(0, .ref a0), (1, .int x22)]) [0, 1] rfl ?_
    exact v_X7_goIn_24 d h_a0 h
abbrev yy_X7_joined : mm_Y := (yX7_joined, cX7_joined, 5, (some .long))
theorem dX7_joined_0 : decode cX7_joined 0 = .ok (.iload_n 0, 1) := by decide +kernel
theorem dX7_joined_1 : decode cX7_joined 1 = .ok (.tableswitch 167 20 31 #[63, 67, 71, 75, 89, 103, 115, 127, 139, 151, 167, 163], 63) := by decide +kernel
theorem dX7_joined_64 : decode cX7_joined 64 = .ok (.lload_n 1, 1) := by decide +kernel
theorem dX7_joined_65 : decode cX7_joined 65 = .ok (.lload_n 3, 1) := by decide +kernel
theorem dX7_joined_66 : decode cX7_joined 66 = .ok (.ladd, 1) := by decide +kernel
theorem dX7_joined_67 : decode cX7_joined 67 = .ok (.lreturn, 1) := by decide +kernel
theorem dX7_joined_68 : decode cX7_joined 68 = .ok (.lload_n 1, 1) := by decide +kernel
theorem dX7_joined_69 : decode cX7_joined 69 = .ok (.lload_n 3, 1) := by decide +kernel
theorem dX7_joined_70 : decode cX7_joined 70 = .ok (.lsub, 1) := by decide +kernel
theorem dX7_joined_71 : decode cX7_joined 71 = .ok (.lreturn, 1) := by decide +kernel
theorem dX7_joined_72 : decode cX7_joined 72 = .ok (.lload_n 1, 1) := by decide +kernel
theorem dX7_joined_73 : decode cX7_joined 73 = .ok (.lload_n 3, 1) := by decide +kernel
theorem dX7_joined_74 : decode cX7_joined 74 = .ok (.lmul, 1) := by decide +kernel
theorem dX7_joined_75 : decode cX7_joined 75 = .ok (.lreturn, 1) := by decide +kernel
theorem dX7_joined_76 : decode cX7_joined 76 = .ok (.lload_n 3, 1) := by decide +kernel
theorem dX7_joined_77 : decode cX7_joined 77 = .ok (.lconst 0, 1) := by decide +kernel
theorem dX7_joined_78 : decode cX7_joined 78 = .ok (.lcmp, 1) := by decide +kernel
theorem dX7_joined_79 : decode cX7_joined 79 = .ok (.ifCond .ne 7, 3) := by decide +kernel
theorem dX7_joined_82 : decode cX7_joined 82 = .ok (.lconst 0, 1) := by decide +kernel
theorem dX7_joined_83 : decode cX7_joined 83 = .ok (.goto 6, 3) := by decide +kernel
theorem dX7_joined_86 : decode cX7_joined 86 = .ok (.lload_n 1, 1) := by decide +kernel
theorem dX7_joined_87 : decode cX7_joined 87 = .ok (.lload_n 3, 1) := by decide +kernel
theorem dX7_joined_88 : decode cX7_joined 88 = .ok (.ldiv, 1) := by decide +kernel
theorem dX7_joined_89 : decode cX7_joined 89 = .ok (.lreturn, 1) := by decide +kernel
theorem dX7_joined_90 : decode cX7_joined 90 = .ok (.lload_n 3, 1) := by decide +kernel
theorem dX7_joined_91 : decode cX7_joined 91 = .ok (.lconst 0, 1) := by decide +kernel
theorem dX7_joined_92 : decode cX7_joined 92 = .ok (.lcmp, 1) := by decide +kernel
theorem dX7_joined_93 : decode cX7_joined 93 = .ok (.ifCond .ne 7, 3) := by decide +kernel
theorem dX7_joined_96 : decode cX7_joined 96 = .ok (.lconst 0, 1) := by decide +kernel
theorem dX7_joined_97 : decode cX7_joined 97 = .ok (.goto 6, 3) := by decide +kernel
theorem dX7_joined_100 : decode cX7_joined 100 = .ok (.lload_n 1, 1) := by decide +kernel
theorem dX7_joined_101 : decode cX7_joined 101 = .ok (.lload_n 3, 1) := by decide +kernel
theorem dX7_joined_102 : decode cX7_joined 102 = .ok (.lrem, 1) := by decide +kernel
theorem dX7_joined_103 : decode cX7_joined 103 = .ok (.lreturn, 1) := by decide +kernel
theorem dX7_joined_104 : decode cX7_joined 104 = .ok (.lload_n 1, 1) := by decide +kernel
theorem dX7_joined_105 : decode cX7_joined 105 = .ok (.lload_n 3, 1) := by decide +kernel
theorem dX7_joined_106 : decode cX7_joined 106 = .ok (.lcmp, 1) := by decide +kernel
theorem dX7_joined_107 : decode cX7_joined 107 = .ok (.ifCond .ge 7, 3) := by decide +kernel
theorem dX7_joined_110 : decode cX7_joined 110 = .ok (.lconst 1, 1) := by decide +kernel
theorem dX7_joined_111 : decode cX7_joined 111 = .ok (.goto 4, 3) := by decide +kernel
theorem dX7_joined_114 : decode cX7_joined 114 = .ok (.lconst 0, 1) := by decide +kernel
theorem dX7_joined_115 : decode cX7_joined 115 = .ok (.lreturn, 1) := by decide +kernel
theorem dX7_joined_116 : decode cX7_joined 116 = .ok (.lload_n 1, 1) := by decide +kernel
theorem dX7_joined_117 : decode cX7_joined 117 = .ok (.lload_n 3, 1) := by decide +kernel
theorem dX7_joined_118 : decode cX7_joined 118 = .ok (.lcmp, 1) := by decide +kernel
theorem dX7_joined_119 : decode cX7_joined 119 = .ok (.ifCond .gt 7, 3) := by decide +kernel
theorem dX7_joined_122 : decode cX7_joined 122 = .ok (.lconst 1, 1) := by decide +kernel
theorem dX7_joined_123 : decode cX7_joined 123 = .ok (.goto 4, 3) := by decide +kernel
theorem dX7_joined_126 : decode cX7_joined 126 = .ok (.lconst 0, 1) := by decide +kernel
theorem dX7_joined_127 : decode cX7_joined 127 = .ok (.lreturn, 1) := by decide +kernel
theorem dX7_joined_128 : decode cX7_joined 128 = .ok (.lload_n 1, 1) := by decide +kernel
theorem dX7_joined_129 : decode cX7_joined 129 = .ok (.lload_n 3, 1) := by decide +kernel
theorem dX7_joined_130 : decode cX7_joined 130 = .ok (.lcmp, 1) := by decide +kernel
theorem dX7_joined_131 : decode cX7_joined 131 = .ok (.ifCond .ne 7, 3) := by decide +kernel
theorem dX7_joined_134 : decode cX7_joined 134 = .ok (.lconst 1, 1) := by decide +kernel
theorem dX7_joined_135 : decode cX7_joined 135 = .ok (.goto 4, 3) := by decide +kernel
theorem dX7_joined_138 : decode cX7_joined 138 = .ok (.lconst 0, 1) := by decide +kernel
theorem dX7_joined_139 : decode cX7_joined 139 = .ok (.lreturn, 1) := by decide +kernel
theorem dX7_joined_140 : decode cX7_joined 140 = .ok (.lload_n 1, 1) := by decide +kernel
theorem dX7_joined_141 : decode cX7_joined 141 = .ok (.lload_n 3, 1) := by decide +kernel
theorem dX7_joined_142 : decode cX7_joined 142 = .ok (.lcmp, 1) := by decide +kernel
theorem dX7_joined_143 : decode cX7_joined 143 = .ok (.ifCond .lt 7, 3) := by decide +kernel
theorem dX7_joined_146 : decode cX7_joined 146 = .ok (.lconst 1, 1) := by decide +kernel
theorem dX7_joined_147 : decode cX7_joined 147 = .ok (.goto 4, 3) := by decide +kernel
theorem dX7_joined_150 : decode cX7_joined 150 = .ok (.lconst 0, 1) := by decide +kernel
theorem dX7_joined_151 : decode cX7_joined 151 = .ok (.lreturn, 1) := by decide +kernel
theorem dX7_joined_152 : decode cX7_joined 152 = .ok (.lload_n 1, 1) := by decide +kernel
theorem dX7_joined_153 : decode cX7_joined 153 = .ok (.lload_n 3, 1) := by decide +kernel
theorem dX7_joined_154 : decode cX7_joined 154 = .ok (.lcmp, 1) := by decide +kernel
theorem dX7_joined_155 : decode cX7_joined 155 = .ok (.ifCond .le 7, 3) := by decide +kernel
theorem dX7_joined_158 : decode cX7_joined 158 = .ok (.lconst 1, 1) := by decide +kernel
theorem dX7_joined_159 : decode cX7_joined 159 = .ok (.goto 4, 3) := by decide +kernel
theorem dX7_joined_162 : decode cX7_joined 162 = .ok (.lconst 0, 1) := by decide +kernel
theorem dX7_joined_163 : decode cX7_joined 163 = .ok (.lreturn, 1) := by decide +kernel
theorem dX7_joined_164 : decode cX7_joined 164 = .ok (.lload_n 1, 1) := by decide +kernel
theorem dX7_joined_165 : decode cX7_joined 165 = .ok (.lload_n 3, 1) := by decide +kernel
theorem dX7_joined_166 : decode cX7_joined 166 = .ok (.land, 1) := by decide +kernel
theorem dX7_joined_167 : decode cX7_joined 167 = .ok (.lreturn, 1) := by decide +kernel
theorem dX7_joined_168 : decode cX7_joined 168 = .ok (.lload_n 1, 1) := by decide +kernel
theorem dX7_joined_169 : decode cX7_joined 169 = .ok (.lload_n 3, 1) := by decide +kernel
theorem dX7_joined_170 : decode cX7_joined 170 = .ok (.lor, 1) := by decide +kernel
theorem dX7_joined_171 : decode cX7_joined 171 = .ok (.lreturn, 1) := by decide +kernel
def f_X7_joined (i0 : Int32) (j1 : Int64) (j3 : Int64) (σ : mm_S) : Option (Int64 × mm_S) :=
    if i0 = 20 then
      some ((j1 + j3), σ)
    else
    if i0 = 21 then
      some ((j1 - j3), σ)
    else
    if i0 = 22 then
      some ((j1 * j3), σ)
    else
    if i0 = 23 then
      if (lg_cmp j3 (0 : Int64)) = 0 then
        some ((0 : Int64), σ)
      else
        gl j3 <|
        some ((j1 / j3), σ)
    else
    if i0 = 24 then
      if (lg_cmp j3 (0 : Int64)) = 0 then
        some ((0 : Int64), σ)
      else
        gl j3 <|
        some ((j1 - j1 / j3 * j3), σ)
    else
    if i0 = 25 then
      if 0 ≤ (lg_cmp j1 j3) then
        some ((0 : Int64), σ)
      else
        some ((1 : Int64), σ)
    else
    if i0 = 26 then
      if 0 < (lg_cmp j1 j3) then
        some ((0 : Int64), σ)
      else
        some ((1 : Int64), σ)
    else
    if i0 = 27 then
      if (lg_cmp j1 j3) = 0 then
        some ((1 : Int64), σ)
      else
        some ((0 : Int64), σ)
    else
    if i0 = 28 then
      if (lg_cmp j1 j3) < 0 then
        some ((0 : Int64), σ)
      else
        some ((1 : Int64), σ)
    else
    if i0 = 29 then
      if (lg_cmp j1 j3) ≤ 0 then
        some ((0 : Int64), σ)
      else
        some ((1 : Int64), σ)
    else
    if i0 = 30 then
      some ((j1 ||| j3), σ)
    else
    if i0 = 31 then
      some ((j1 &&& j3), σ)
    else
    some ((j1 ||| j3), σ)
theorem v_X7_joined {g : mm_G} (d : Nat) {i0 : Int32} {j1 : Int64} {j3 : Int64} {σ : mm_S} {res : Int64 × mm_S}  (h : f_X7_joined i0 j1 j3 σ = some res) : SM g (d + 0) yy_X7_joined [.int i0, .long j1, .long j3] σ (.long res.1) res.2 := by
  refine s_of (by decide) (Nat.le_of_ble_eq_true rfl) (L := [(0, .int i0), (1, .long j1), (3, .long j3)]) rfl ?_
  unfold f_X7_joined at h
  refine e_iload_n 0 dX7_joined_0 rfl rfl ?_
  by_cases c22 : i0 = 20
  · rw [if_pos c22] at h
    refine s_eqi c22 ?_
    refine e_tabIn 64 dX7_joined_1 (by decide) (by decide) rfl (by decide) ?_
    refine e_lload_n 1 dX7_joined_64 rfl rfl ?_
    refine e_lload_n 2 dX7_joined_65 rfl rfl ?_
    refine e_ladd dX7_joined_66 ?_
    obtain rfl := Option.some.inj h
    exact s_ret rfl ⟨_, rfl⟩ dX7_joined_67
  rw [if_neg c22] at h
  by_cases c23 : i0 = 21
  · rw [if_pos c23] at h
    refine s_eqi c23 ?_
    refine e_tabIn 68 dX7_joined_1 (by decide) (by decide) rfl (by decide) ?_
    refine e_lload_n 1 dX7_joined_68 rfl rfl ?_
    refine e_lload_n 2 dX7_joined_69 rfl rfl ?_
    refine e_lsub dX7_joined_70 ?_
    obtain rfl := Option.some.inj h
    exact s_ret rfl ⟨_, rfl⟩ dX7_joined_71
  rw [if_neg c23] at h
  by_cases c24 : i0 = 22
  · rw [if_pos c24] at h
    refine s_eqi c24 ?_
    refine e_tabIn 72 dX7_joined_1 (by decide) (by decide) rfl (by decide) ?_
    refine e_lload_n 1 dX7_joined_72 rfl rfl ?_
    refine e_lload_n 2 dX7_joined_73 rfl rfl ?_
    refine e_lmul dX7_joined_74 ?_
    obtain rfl := Option.some.inj h
    exact s_ret rfl ⟨_, rfl⟩ dX7_joined_75
  rw [if_neg c24] at h
  by_cases c25 : i0 = 23
  · rw [if_pos c25] at h
    refine s_eqi c25 ?_
    refine e_tabIn 76 dX7_joined_1 (by decide) (by decide) rfl (by decide) ?_
    refine e_lload_n 2 dX7_joined_76 rfl rfl ?_
    refine e_lconst (v := (0 : Int64)) dX7_joined_77 (by decide) ?_
    refine e_lcmp dX7_joined_78 ?_
    refine e_if_ne 86 dX7_joined_79 (by decide) (fun c26 => ?_) (fun c26 => ?_)
    · rw [if_neg c26] at h
      refine e_lload_n 1 dX7_joined_86 rfl rfl ?_
      refine e_lload_n 2 dX7_joined_87 rfl rfl ?_
      obtain ⟨q27, h⟩ := gl_some h
      refine e_ldiv dX7_joined_88 q27 ?_
      obtain rfl := Option.some.inj h
      exact s_ret rfl ⟨_, rfl⟩ dX7_joined_89
    · rw [if_pos c26] at h
      refine e_lconst (v := (0 : Int64)) dX7_joined_82 (by decide) ?_
      refine e_goto 89 dX7_joined_83 (by decide) ?_
      obtain rfl := Option.some.inj h
      exact s_ret rfl ⟨_, rfl⟩ dX7_joined_89
  rw [if_neg c25] at h
  by_cases c28 : i0 = 24
  · rw [if_pos c28] at h
    refine s_eqi c28 ?_
    refine e_tabIn 90 dX7_joined_1 (by decide) (by decide) rfl (by decide) ?_
    refine e_lload_n 2 dX7_joined_90 rfl rfl ?_
    refine e_lconst (v := (0 : Int64)) dX7_joined_91 (by decide) ?_
    refine e_lcmp dX7_joined_92 ?_
    refine e_if_ne 100 dX7_joined_93 (by decide) (fun c29 => ?_) (fun c29 => ?_)
    · rw [if_neg c29] at h
      refine e_lload_n 1 dX7_joined_100 rfl rfl ?_
      refine e_lload_n 2 dX7_joined_101 rfl rfl ?_
      obtain ⟨q30, h⟩ := gl_some h
      refine e_lrem dX7_joined_102 q30 ?_
      obtain rfl := Option.some.inj h
      exact s_ret rfl ⟨_, rfl⟩ dX7_joined_103
    · rw [if_pos c29] at h
      refine e_lconst (v := (0 : Int64)) dX7_joined_96 (by decide) ?_
      refine e_goto 103 dX7_joined_97 (by decide) ?_
      obtain rfl := Option.some.inj h
      exact s_ret rfl ⟨_, rfl⟩ dX7_joined_103
  rw [if_neg c28] at h
  by_cases c31 : i0 = 25
  · rw [if_pos c31] at h
    refine s_eqi c31 ?_
    refine e_tabIn 104 dX7_joined_1 (by decide) (by decide) rfl (by decide) ?_
    refine e_lload_n 1 dX7_joined_104 rfl rfl ?_
    refine e_lload_n 2 dX7_joined_105 rfl rfl ?_
    refine e_lcmp dX7_joined_106 ?_
    refine e_if_ge 114 dX7_joined_107 (by decide) (fun c32 => ?_) (fun c32 => ?_)
    · rw [if_pos c32] at h
      refine e_lconst (v := (0 : Int64)) dX7_joined_114 (by decide) ?_
      obtain rfl := Option.some.inj h
      exact s_ret rfl ⟨_, rfl⟩ dX7_joined_115
    · rw [if_neg c32] at h
      refine e_lconst (v := (1 : Int64)) dX7_joined_110 (by decide) ?_
      refine e_goto 115 dX7_joined_111 (by decide) ?_
      obtain rfl := Option.some.inj h
      exact s_ret rfl ⟨_, rfl⟩ dX7_joined_115
  rw [if_neg c31] at h
  by_cases c33 : i0 = 26
  · rw [if_pos c33] at h
    refine s_eqi c33 ?_
    refine e_tabIn 116 dX7_joined_1 (by decide) (by decide) rfl (by decide) ?_
    refine e_lload_n 1 dX7_joined_116 rfl rfl ?_
    refine e_lload_n 2 dX7_joined_117 rfl rfl ?_
    refine e_lcmp dX7_joined_118 ?_
    refine e_if_gt 126 dX7_joined_119 (by decide) (fun c34 => ?_) (fun c34 => ?_)
    · rw [if_pos c34] at h
      refine e_lconst (v := (0 : Int64)) dX7_joined_126 (by decide) ?_
      obtain rfl := Option.some.inj h
      exact s_ret rfl ⟨_, rfl⟩ dX7_joined_127
    · rw [if_neg c34] at h
      refine e_lconst (v := (1 : Int64)) dX7_joined_122 (by decide) ?_
      refine e_goto 127 dX7_joined_123 (by decide) ?_
      obtain rfl := Option.some.inj h
      exact s_ret rfl ⟨_, rfl⟩ dX7_joined_127
  rw [if_neg c33] at h
  by_cases c35 : i0 = 27
  · rw [if_pos c35] at h
    refine s_eqi c35 ?_
    refine e_tabIn 128 dX7_joined_1 (by decide) (by decide) rfl (by decide) ?_
    refine e_lload_n 1 dX7_joined_128 rfl rfl ?_
    refine e_lload_n 2 dX7_joined_129 rfl rfl ?_
    refine e_lcmp dX7_joined_130 ?_
    refine e_if_ne 138 dX7_joined_131 (by decide) (fun c36 => ?_) (fun c36 => ?_)
    · rw [if_neg c36] at h
      refine e_lconst (v := (0 : Int64)) dX7_joined_138 (by decide) ?_
      obtain rfl := Option.some.inj h
      exact s_ret rfl ⟨_, rfl⟩ dX7_joined_139
    · rw [if_pos c36] at h
      refine e_lconst (v := (1 : Int64)) dX7_joined_134 (by decide) ?_
      refine e_goto 139 dX7_joined_135 (by decide) ?_
      obtain rfl := Option.some.inj h
      exact s_ret rfl ⟨_, rfl⟩ dX7_joined_139
  rw [if_neg c35] at h
  by_cases c37 : i0 = 28
  · rw [if_pos c37] at h
    refine s_eqi c37 ?_
    refine e_tabIn 140 dX7_joined_1 (by decide) (by decide) rfl (by decide) ?_
    refine e_lload_n 1 dX7_joined_140 rfl rfl ?_
    refine e_lload_n 2 dX7_joined_141 rfl rfl ?_
    refine e_lcmp dX7_joined_142 ?_
    refine e_if_lt 150 dX7_joined_143 (by decide) (fun c38 => ?_) (fun c38 => ?_)
    · rw [if_pos c38] at h
      refine e_lconst (v := (0 : Int64)) dX7_joined_150 (by decide) ?_
      obtain rfl := Option.some.inj h
      exact s_ret rfl ⟨_, rfl⟩ dX7_joined_151
    · rw [if_neg c38] at h
      refine e_lconst (v := (1 : Int64)) dX7_joined_146 (by decide) ?_
      refine e_goto 151 dX7_joined_147 (by decide) ?_
      obtain rfl := Option.some.inj h
      exact s_ret rfl ⟨_, rfl⟩ dX7_joined_151
  rw [if_neg c37] at h
  by_cases c39 : i0 = 29
  · rw [if_pos c39] at h
    refine s_eqi c39 ?_
    refine e_tabIn 152 dX7_joined_1 (by decide) (by decide) rfl (by decide) ?_
    refine e_lload_n 1 dX7_joined_152 rfl rfl ?_
    refine e_lload_n 2 dX7_joined_153 rfl rfl ?_
    refine e_lcmp dX7_joined_154 ?_
    refine e_if_le 162 dX7_joined_155 (by decide) (fun c40 => ?_) (fun c40 => ?_)
    · rw [if_pos c40] at h
      refine e_lconst (v := (0 : Int64)) dX7_joined_162 (by decide) ?_
      obtain rfl := Option.some.inj h
      exact s_ret rfl ⟨_, rfl⟩ dX7_joined_163
    · rw [if_neg c40] at h
      refine e_lconst (v := (1 : Int64)) dX7_joined_158 (by decide) ?_
      refine e_goto 163 dX7_joined_159 (by decide) ?_
      obtain rfl := Option.some.inj h
      exact s_ret rfl ⟨_, rfl⟩ dX7_joined_163
  rw [if_neg c39] at h
  by_cases c41 : i0 = 30
  · rw [if_pos c41] at h
    refine s_eqi c41 ?_
    refine e_tabIn 168 dX7_joined_1 (by decide) (by decide) rfl (by decide) ?_
    refine e_lload_n 1 dX7_joined_168 rfl rfl ?_
    refine e_lload_n 2 dX7_joined_169 rfl rfl ?_
    refine e_lor dX7_joined_170 ?_
    obtain rfl := Option.some.inj h
    exact s_ret rfl ⟨_, rfl⟩ dX7_joined_171
  rw [if_neg c41] at h
  by_cases c42 : i0 = 31
  · rw [if_pos c42] at h
    refine s_eqi c42 ?_
    refine e_tabIn 164 dX7_joined_1 (by decide) (by decide) rfl (by decide) ?_
    refine e_lload_n 1 dX7_joined_164 rfl rfl ?_
    refine e_lload_n 2 dX7_joined_165 rfl rfl ?_
    refine e_land dX7_joined_166 ?_
    obtain rfl := Option.some.inj h
    exact s_ret rfl ⟨_, rfl⟩ dX7_joined_167
  rw [if_neg c42] at h
  have c22' := lv_neT (a := 20) c22 rfl
  have c23' := lv_neT (a := 21) c23 rfl
  have c24' := lv_neT (a := 22) c24 rfl
  have c25' := lv_neT (a := 23) c25 rfl
  have c28' := lv_neT (a := 24) c28 rfl
  have c31' := lv_neT (a := 25) c31 rfl
  have c33' := lv_neT (a := 26) c33 rfl
  have c35' := lv_neT (a := 27) c35 rfl
  have c37' := lv_neT (a := 28) c37 rfl
  have c39' := lv_neT (a := 29) c39 rfl
  have c41' := lv_neT (a := 30) c41 rfl
  have c42' := lv_neT (a := 31) c42 rfl
  refine e_tabOut 168 dX7_joined_1 (by omega) (by decide) ?_
  refine e_lload_n 1 dX7_joined_168 rfl rfl ?_
  refine e_lload_n 2 dX7_joined_169 rfl rfl ?_
  refine e_lor dX7_joined_170 ?_
  obtain rfl := Option.some.inj h
  exact s_ret rfl ⟨_, rfl⟩ dX7_joined_171
abbrev yy_X7_worthByRule : mm_Y := (yX7_worthByRule, cX7_worthByRule, 4, (some .long))
theorem dX7_worthByRule_0 : decode cX7_worthByRule 0 = .ok (.iconst 0, 1) := by decide +kernel
theorem dX7_worthByRule_1 : decode cX7_worthByRule 1 = .ok (.istore_n 1, 1) := by decide +kernel
theorem dX7_worthByRule_2 : decode cX7_worthByRule 2 = .ok (.iconst 0, 1) := by decide +kernel
theorem dX7_worthByRule_3 : decode cX7_worthByRule 3 = .ok (.istore_n 2, 1) := by decide +kernel
theorem dX7_worthByRule_4 : decode cX7_worthByRule 4 = .ok (.iload_n 2, 1) := by decide +kernel
theorem dX7_worthByRule_5 : decode cX7_worthByRule 5 = .ok (.aload_n 0, 1) := by decide +kernel
theorem dX7_worthByRule_6 : decode cX7_worthByRule 6 = .ok (.getfield 39, 3) := by decide +kernel
theorem dX7_worthByRule_9 : decode cX7_worthByRule 9 = .ok (.getfield 149, 3) := by decide +kernel
theorem dX7_worthByRule_12 : decode cX7_worthByRule 12 = .ok (.if_icmp .ge 214, 3) := by decide +kernel
theorem dX7_worthByRule_15 : decode cX7_worthByRule 15 = .ok (.iload_n 2, 1) := by decide +kernel
theorem dX7_worthByRule_16 : decode cX7_worthByRule 16 = .ok (.aload_n 0, 1) := by decide +kernel
theorem dX7_worthByRule_17 : decode cX7_worthByRule 17 = .ok (.getfield 39, 3) := by decide +kernel
theorem dX7_worthByRule_20 : decode cX7_worthByRule 20 = .ok (.getfield 154, 3) := by decide +kernel
theorem dX7_worthByRule_23 : decode cX7_worthByRule 23 = .ok (.arraylength, 1) := by decide +kernel
theorem dX7_worthByRule_24 : decode cX7_worthByRule 24 = .ok (.if_icmp .ge 202, 3) := by decide +kernel
theorem dX7_worthByRule_27 : decode cX7_worthByRule 27 = .ok (.aload_n 0, 1) := by decide +kernel
theorem dX7_worthByRule_28 : decode cX7_worthByRule 28 = .ok (.getfield 39, 3) := by decide +kernel
theorem dX7_worthByRule_31 : decode cX7_worthByRule 31 = .ok (.getfield 154, 3) := by decide +kernel
theorem dX7_worthByRule_34 : decode cX7_worthByRule 34 = .ok (.iload_n 2, 1) := by decide +kernel
theorem dX7_worthByRule_35 : decode cX7_worthByRule 35 = .ok (.iaload, 1) := by decide +kernel
theorem dX7_worthByRule_36 : decode cX7_worthByRule 36 = .ok (.istore_n 3, 1) := by decide +kernel
theorem dX7_worthByRule_37 : decode cX7_worthByRule 37 = .ok (.iload_n 3, 1) := by decide +kernel
theorem dX7_worthByRule_38 : decode cX7_worthByRule 38 = .ok (.bipush 40, 2) := by decide +kernel
theorem dX7_worthByRule_40 : decode cX7_worthByRule 40 = .ok (.if_icmp .lt 26, 3) := by decide +kernel
theorem dX7_worthByRule_43 : decode cX7_worthByRule 43 = .ok (.iload_n 1, 1) := by decide +kernel
theorem dX7_worthByRule_44 : decode cX7_worthByRule 44 = .ok (.bipush 48, 2) := by decide +kernel
theorem dX7_worthByRule_46 : decode cX7_worthByRule 46 = .ok (.if_icmp .ge 20, 3) := by decide +kernel
theorem dX7_worthByRule_49 : decode cX7_worthByRule 49 = .ok (.aload_n 0, 1) := by decide +kernel
theorem dX7_worthByRule_50 : decode cX7_worthByRule 50 = .ok (.getfield 32, 3) := by decide +kernel
theorem dX7_worthByRule_53 : decode cX7_worthByRule 53 = .ok (.iload_n 1, 1) := by decide +kernel
theorem dX7_worthByRule_54 : decode cX7_worthByRule 54 = .ok (.iload_n 3, 1) := by decide +kernel
theorem dX7_worthByRule_55 : decode cX7_worthByRule 55 = .ok (.bipush 40, 2) := by decide +kernel
theorem dX7_worthByRule_57 : decode cX7_worthByRule 57 = .ok (.isub, 1) := by decide +kernel
theorem dX7_worthByRule_58 : decode cX7_worthByRule 58 = .ok (.i2l, 1) := by decide +kernel
theorem dX7_worthByRule_59 : decode cX7_worthByRule 59 = .ok (.lastore, 1) := by decide +kernel
theorem dX7_worthByRule_60 : decode cX7_worthByRule 60 = .ok (.iinc 1 1, 3) := by decide +kernel
theorem dX7_worthByRule_63 : decode cX7_worthByRule 63 = .ok (.goto 157, 3) := by decide +kernel
theorem dX7_worthByRule_66 : decode cX7_worthByRule 66 = .ok (.iload_n 3, 1) := by decide +kernel
theorem dX7_worthByRule_67 : decode cX7_worthByRule 67 = .ok (.ifCond .lt 33, 3) := by decide +kernel
theorem dX7_worthByRule_70 : decode cX7_worthByRule 70 = .ok (.iload_n 3, 1) := by decide +kernel
theorem dX7_worthByRule_71 : decode cX7_worthByRule 71 = .ok (.bipush 13, 2) := by decide +kernel
theorem dX7_worthByRule_73 : decode cX7_worthByRule 73 = .ok (.if_icmp .ge 27, 3) := by decide +kernel
theorem dX7_worthByRule_76 : decode cX7_worthByRule 76 = .ok (.iload_n 1, 1) := by decide +kernel
theorem dX7_worthByRule_77 : decode cX7_worthByRule 77 = .ok (.bipush 48, 2) := by decide +kernel
theorem dX7_worthByRule_79 : decode cX7_worthByRule 79 = .ok (.if_icmp .ge 21, 3) := by decide +kernel
theorem dX7_worthByRule_82 : decode cX7_worthByRule 82 = .ok (.aload_n 0, 1) := by decide +kernel
theorem dX7_worthByRule_83 : decode cX7_worthByRule 83 = .ok (.getfield 32, 3) := by decide +kernel
theorem dX7_worthByRule_86 : decode cX7_worthByRule 86 = .ok (.iload_n 1, 1) := by decide +kernel
theorem dX7_worthByRule_87 : decode cX7_worthByRule 87 = .ok (.aload_n 0, 1) := by decide +kernel
theorem dX7_worthByRule_88 : decode cX7_worthByRule 88 = .ok (.getfield 28, 3) := by decide +kernel
theorem dX7_worthByRule_91 : decode cX7_worthByRule 91 = .ok (.iload_n 3, 1) := by decide +kernel
theorem dX7_worthByRule_92 : decode cX7_worthByRule 92 = .ok (.laload, 1) := by decide +kernel
theorem dX7_worthByRule_93 : decode cX7_worthByRule 93 = .ok (.lastore, 1) := by decide +kernel
theorem dX7_worthByRule_94 : decode cX7_worthByRule 94 = .ok (.iinc 1 1, 3) := by decide +kernel
theorem dX7_worthByRule_97 : decode cX7_worthByRule 97 = .ok (.goto 123, 3) := by decide +kernel
theorem dX7_worthByRule_100 : decode cX7_worthByRule 100 = .ok (.iload_n 3, 1) := by decide +kernel
theorem dX7_worthByRule_101 : decode cX7_worthByRule 101 = .ok (.bipush 33, 2) := by decide +kernel
theorem dX7_worthByRule_103 : decode cX7_worthByRule 103 = .ok (.if_icmp .ne 17, 3) := by decide +kernel
theorem dX7_worthByRule_106 : decode cX7_worthByRule 106 = .ok (.iload_n 1, 1) := by decide +kernel
theorem dX7_worthByRule_107 : decode cX7_worthByRule 107 = .ok (.iconst 1, 1) := by decide +kernel
theorem dX7_worthByRule_108 : decode cX7_worthByRule 108 = .ok (.if_icmp .lt 12, 3) := by decide +kernel
theorem dX7_worthByRule_111 : decode cX7_worthByRule 111 = .ok (.aload_n 0, 1) := by decide +kernel
theorem dX7_worthByRule_112 : decode cX7_worthByRule 112 = .ok (.getfield 32, 3) := by decide +kernel
theorem dX7_worthByRule_115 : decode cX7_worthByRule 115 = .ok (.iload_n 1, 1) := by decide +kernel
theorem dX7_worthByRule_116 : decode cX7_worthByRule 116 = .ok (.iconst 1, 1) := by decide +kernel
theorem dX7_worthByRule_117 : decode cX7_worthByRule 117 = .ok (.isub, 1) := by decide +kernel
theorem dX7_worthByRule_118 : decode cX7_worthByRule 118 = .ok (.laload, 1) := by decide +kernel
theorem dX7_worthByRule_119 : decode cX7_worthByRule 119 = .ok (.lreturn, 1) := by decide +kernel
theorem dX7_worthByRule_120 : decode cX7_worthByRule 120 = .ok (.iload_n 3, 1) := by decide +kernel
theorem dX7_worthByRule_121 : decode cX7_worthByRule 121 = .ok (.bipush 34, 2) := by decide +kernel
theorem dX7_worthByRule_123 : decode cX7_worthByRule 123 = .ok (.if_icmp .ne 31, 3) := by decide +kernel
theorem dX7_worthByRule_126 : decode cX7_worthByRule 126 = .ok (.iload_n 1, 1) := by decide +kernel
theorem dX7_worthByRule_127 : decode cX7_worthByRule 127 = .ok (.iconst 2, 1) := by decide +kernel
theorem dX7_worthByRule_128 : decode cX7_worthByRule 128 = .ok (.if_icmp .lt 26, 3) := by decide +kernel
theorem dX7_worthByRule_131 : decode cX7_worthByRule 131 = .ok (.iinc 1 (-2), 3) := by decide +kernel
theorem dX7_worthByRule_134 : decode cX7_worthByRule 134 = .ok (.aload_n 0, 1) := by decide +kernel
theorem dX7_worthByRule_135 : decode cX7_worthByRule 135 = .ok (.getfield 32, 3) := by decide +kernel
theorem dX7_worthByRule_138 : decode cX7_worthByRule 138 = .ok (.iload_n 1, 1) := by decide +kernel
theorem dX7_worthByRule_139 : decode cX7_worthByRule 139 = .ok (.iconst 1, 1) := by decide +kernel
theorem dX7_worthByRule_140 : decode cX7_worthByRule 140 = .ok (.iadd, 1) := by decide +kernel
theorem dX7_worthByRule_141 : decode cX7_worthByRule 141 = .ok (.laload, 1) := by decide +kernel
theorem dX7_worthByRule_142 : decode cX7_worthByRule 142 = .ok (.lconst 0, 1) := by decide +kernel
theorem dX7_worthByRule_143 : decode cX7_worthByRule 143 = .ok (.lcmp, 1) := by decide +kernel
theorem dX7_worthByRule_144 : decode cX7_worthByRule 144 = .ok (.ifCond .eq 76, 3) := by decide +kernel
theorem dX7_worthByRule_147 : decode cX7_worthByRule 147 = .ok (.aload_n 0, 1) := by decide +kernel
theorem dX7_worthByRule_148 : decode cX7_worthByRule 148 = .ok (.getfield 32, 3) := by decide +kernel
theorem dX7_worthByRule_151 : decode cX7_worthByRule 151 = .ok (.iload_n 1, 1) := by decide +kernel
theorem dX7_worthByRule_152 : decode cX7_worthByRule 152 = .ok (.laload, 1) := by decide +kernel
theorem dX7_worthByRule_153 : decode cX7_worthByRule 153 = .ok (.lreturn, 1) := by decide +kernel
theorem dX7_worthByRule_154 : decode cX7_worthByRule 154 = .ok (.iload_n 3, 1) := by decide +kernel
theorem dX7_worthByRule_155 : decode cX7_worthByRule 155 = .ok (.bipush 30, 2) := by decide +kernel
theorem dX7_worthByRule_157 : decode cX7_worthByRule 157 = .ok (.if_icmp .ne 29, 3) := by decide +kernel
theorem dX7_worthByRule_160 : decode cX7_worthByRule 160 = .ok (.iload_n 1, 1) := by decide +kernel
theorem dX7_worthByRule_161 : decode cX7_worthByRule 161 = .ok (.iconst 1, 1) := by decide +kernel
theorem dX7_worthByRule_162 : decode cX7_worthByRule 162 = .ok (.if_icmp .lt 24, 3) := by decide +kernel
theorem dX7_worthByRule_165 : decode cX7_worthByRule 165 = .ok (.aload_n 0, 1) := by decide +kernel
theorem dX7_worthByRule_166 : decode cX7_worthByRule 166 = .ok (.getfield 32, 3) := by decide +kernel
theorem dX7_worthByRule_169 : decode cX7_worthByRule 169 = .ok (.iload_n 1, 1) := by decide +kernel
theorem dX7_worthByRule_170 : decode cX7_worthByRule 170 = .ok (.iconst 1, 1) := by decide +kernel
theorem dX7_worthByRule_171 : decode cX7_worthByRule 171 = .ok (.isub, 1) := by decide +kernel
theorem dX7_worthByRule_172 : decode cX7_worthByRule 172 = .ok (.lconst 1, 1) := by decide +kernel
theorem dX7_worthByRule_173 : decode cX7_worthByRule 173 = .ok (.aload_n 0, 1) := by decide +kernel
theorem dX7_worthByRule_174 : decode cX7_worthByRule 174 = .ok (.getfield 32, 3) := by decide +kernel
theorem dX7_worthByRule_177 : decode cX7_worthByRule 177 = .ok (.iload_n 1, 1) := by decide +kernel
theorem dX7_worthByRule_178 : decode cX7_worthByRule 178 = .ok (.iconst 1, 1) := by decide +kernel
theorem dX7_worthByRule_179 : decode cX7_worthByRule 179 = .ok (.isub, 1) := by decide +kernel
theorem dX7_worthByRule_180 : decode cX7_worthByRule 180 = .ok (.laload, 1) := by decide +kernel
theorem dX7_worthByRule_181 : decode cX7_worthByRule 181 = .ok (.lsub, 1) := by decide +kernel
theorem dX7_worthByRule_182 : decode cX7_worthByRule 182 = .ok (.lastore, 1) := by decide +kernel
theorem dX7_worthByRule_183 : decode cX7_worthByRule 183 = .ok (.goto 37, 3) := by decide +kernel
theorem dX7_worthByRule_186 : decode cX7_worthByRule 186 = .ok (.iload_n 1, 1) := by decide +kernel
theorem dX7_worthByRule_187 : decode cX7_worthByRule 187 = .ok (.iconst 2, 1) := by decide +kernel
theorem dX7_worthByRule_188 : decode cX7_worthByRule 188 = .ok (.if_icmp .lt 32, 3) := by decide +kernel
theorem dX7_worthByRule_191 : decode cX7_worthByRule 191 = .ok (.iinc 1 (-1), 3) := by decide +kernel
theorem dX7_worthByRule_194 : decode cX7_worthByRule 194 = .ok (.aload_n 0, 1) := by decide +kernel
theorem dX7_worthByRule_195 : decode cX7_worthByRule 195 = .ok (.getfield 32, 3) := by decide +kernel
theorem dX7_worthByRule_198 : decode cX7_worthByRule 198 = .ok (.iload_n 1, 1) := by decide +kernel
theorem dX7_worthByRule_199 : decode cX7_worthByRule 199 = .ok (.iconst 1, 1) := by decide +kernel
theorem dX7_worthByRule_200 : decode cX7_worthByRule 200 = .ok (.isub, 1) := by decide +kernel
theorem dX7_worthByRule_201 : decode cX7_worthByRule 201 = .ok (.iload_n 3, 1) := by decide +kernel
theorem dX7_worthByRule_202 : decode cX7_worthByRule 202 = .ok (.aload_n 0, 1) := by decide +kernel
theorem dX7_worthByRule_203 : decode cX7_worthByRule 203 = .ok (.getfield 32, 3) := by decide +kernel
theorem dX7_worthByRule_206 : decode cX7_worthByRule 206 = .ok (.iload_n 1, 1) := by decide +kernel
theorem dX7_worthByRule_207 : decode cX7_worthByRule 207 = .ok (.iconst 1, 1) := by decide +kernel
theorem dX7_worthByRule_208 : decode cX7_worthByRule 208 = .ok (.isub, 1) := by decide +kernel
theorem dX7_worthByRule_209 : decode cX7_worthByRule 209 = .ok (.laload, 1) := by decide +kernel
theorem dX7_worthByRule_210 : decode cX7_worthByRule 210 = .ok (.aload_n 0, 1) := by decide +kernel
theorem dX7_worthByRule_211 : decode cX7_worthByRule 211 = .ok (.getfield 32, 3) := by decide +kernel
theorem dX7_worthByRule_214 : decode cX7_worthByRule 214 = .ok (.iload_n 1, 1) := by decide +kernel
theorem dX7_worthByRule_215 : decode cX7_worthByRule 215 = .ok (.laload, 1) := by decide +kernel
theorem dX7_worthByRule_216 : decode cX7_worthByRule 216 = .ok (.invokestatic 157, 3) := by decide +kernel
theorem dX7_worthByRule_219 : decode cX7_worthByRule 219 = .ok (.lastore, 1) := by decide +kernel
theorem dX7_worthByRule_220 : decode cX7_worthByRule 220 = .ok (.iinc 2 1, 3) := by decide +kernel
theorem dX7_worthByRule_223 : decode cX7_worthByRule 223 = .ok (.goto (-219), 3) := by decide +kernel
theorem dX7_worthByRule_226 : decode cX7_worthByRule 226 = .ok (.lconst 0, 1) := by decide +kernel
theorem dX7_worthByRule_227 : decode cX7_worthByRule 227 = .ok (.lreturn, 1) := by decide +kernel
def f_X7_worthByRule_186 (k4 : (Int32 × Int32) → mm_S → Option (Int64 × mm_S)) (a0 : Nat) (i1 : Int32) (i2 : Int32) (i3 : Int32) (σ : mm_S) : Option (Int64 × mm_S) :=
    if i1 < (2 : Int32) then
      lt (i2 + Int32.ofInt (1)) fun x2 =>
      k4 (i1, x2) σ
    else
      lt (i1 + Int32.ofInt (-1)) fun x4 =>
      gd (x4 - (1 : Int32)) 48 <|
      gd x4 48 <|
      bd (f_X7_joined i3 (σ.2.1 210 (x4 - (1 : Int32)).toNatClampNeg) (σ.2.1 210 x4.toNatClampNeg) σ) fun r10 σ9 =>
      gd (x4 - (1 : Int32)) 48 <|
      lt (su_j σ9 210 (x4 - (1 : Int32)).toNatClampNeg r10) fun σ12 =>
      lt (i2 + Int32.ofInt (1)) fun x14 =>
      k4 (x4, x14) σ12
theorem v_X7_worthByRule_186 {g : mm_G} (d : Nat) {k4 : (Int32 × Int32) → mm_S → Option (Int64 × mm_S)} {a0 : Nat} {i1 : Int32} {i2 : Int32} {i3 : Int32} {σ : mm_S} {res : Int64 × mm_S} (H4 : ∀ v σ, k4 v σ = some res → SV g (d + 1) yy_X7_worthByRule 4 [(0, .ref a0), (1, .int v.1), (2, .int v.2)] [] σ (.long res.1) res.2) (h_a0 : (mm_K a0).1 = 7) (h : f_X7_worthByRule_186 k4 a0 i1 i2 i3 σ = some res) : SV g (d + 1) yy_X7_worthByRule 186 [(0, .ref a0), (1, .int i1), (2, .int i2), (3, .int i3)] [] σ (.long res.1) res.2 := by
  unfold f_X7_worthByRule_186 at h
  refine e_iload_n 1 dX7_worthByRule_186 rfl rfl ?_
  refine e_iconst (v := (2 : Int32)) dX7_worthByRule_187 (by decide) ?_
  refine e_icmp_lt 220 dX7_worthByRule_188 (by decide) (fun c1 => ?_) (fun c1 => ?_)
  · rw [if_pos c1] at h
    obtain ⟨x2, q3, h⟩ := lt_some h
    refine e_iinc (v := x2) (L' := [(0, .ref a0), (1, .int i1), (2, .int x2), (3, .int i3)]) 2 dX7_worthByRule_220 rfl q3.symm (by decide) rfl ?_
    refine e_goto 4 dX7_worthByRule_223 (by decide) ?_
    refine s_pick (L' := [(0, .ref a0), (1, .int i1), (2, .int x2)]) [0, 1, 2] rfl ?_
    exact H4 (i1, x2) σ h
  · rw [if_neg c1] at h
    obtain ⟨x4, q5, h⟩ := lt_some h
    refine e_iinc (v := x4) (L' := [(0, .ref a0), (1, .int x4), (2, .int i2), (3, .int i3)]) 1 dX7_worthByRule_191 rfl q5.symm (by decide) rfl ?_
    refine e_aload_n 0 dX7_worthByRule_194 rfl rfl ?_
    refine s_getr dX7_worthByRule_195 fl_RX7_32 h_a0 (r_7_11 h_a0).1 ?_
    refine e_iload_n 1 dX7_worthByRule_198 rfl rfl ?_
    refine e_iconst (v := (1 : Int32)) dX7_worthByRule_199 (by decide) ?_
    refine e_isub dX7_worthByRule_200 ?_
    refine e_iload_n 3 dX7_worthByRule_201 rfl rfl ?_
    refine e_aload_n 0 dX7_worthByRule_202 rfl rfl ?_
    refine s_getr dX7_worthByRule_203 fl_RX7_32 h_a0 (r_7_11 h_a0).1 ?_
    refine e_iload_n 1 dX7_worthByRule_206 rfl rfl ?_
    refine e_iconst (v := (1 : Int32)) dX7_worthByRule_207 (by decide) ?_
    refine e_isub dX7_worthByRule_208 ?_
    obtain ⟨q6, h⟩ := gd_some h
    refine s_lald dX7_worthByRule_209 (r_7_11 (w := 0) h_a0).2 q6 ?_
    refine e_aload_n 0 dX7_worthByRule_210 rfl rfl ?_
    refine s_getr dX7_worthByRule_211 fl_RX7_32 h_a0 (r_7_11 h_a0).1 ?_
    refine e_iload_n 1 dX7_worthByRule_214 rfl rfl ?_
    obtain ⟨q7, h⟩ := gd_some h
    refine s_lald dX7_worthByRule_215 (r_7_11 (w := 0) h_a0).2 q7 ?_
    obtain ⟨r10, σ9, q8, h⟩ := bd_some h
    refine s_callSl [.int i3, .long (σ.2.1 210 (x4 - (1 : Int32)).toNatClampNeg), .long (σ.2.1 210 x4.toNatClampNeg)] dX7_worthByRule_216 ml_RX7_157 rfl rfl (v_X7_joined (d + 0)  q8) (Nat.le_of_ble_eq_true rfl) ?_
    obtain ⟨q11, h⟩ := gd_some h
    refine s_last dX7_worthByRule_219 (r_7_11 (w := 0) h_a0).2 q11 ?_
    obtain ⟨σ12, q13, h⟩ := lt_some h
    refine s_nms q13 ?_
    obtain ⟨x14, q15, h⟩ := lt_some h
    refine e_iinc (v := x14) (L' := [(0, .ref a0), (1, .int x4), (2, .int x14), (3, .int i3)]) 2 dX7_worthByRule_220 rfl q15.symm (by decide) rfl ?_
    refine e_goto 4 dX7_worthByRule_223 (by decide) ?_
    refine s_pick (L' := [(0, .ref a0), (1, .int x4), (2, .int x14)]) [0, 1, 2] rfl ?_
    exact H4 (x4, x14) σ12 h
def f_X7_worthByRule_154 (k4 : (Int32 × Int32) → mm_S → Option (Int64 × mm_S)) (a0 : Nat) (i1 : Int32) (i2 : Int32) (i3 : Int32) (σ : mm_S) : Option (Int64 × mm_S) :=
    if i3 = (30 : Int32) then
      if i1 < (1 : Int32) then
        f_X7_worthByRule_186 k4 a0 i1 i2 i3 σ
      else
        gd (i1 - (1 : Int32)) 48 <|
        gd (i1 - (1 : Int32)) 48 <|
        lt (su_j σ 210 (i1 - (1 : Int32)).toNatClampNeg ((1 : Int64) - (σ.2.1 210 (i1 - (1 : Int32)).toNatClampNeg))) fun σ20 =>
        lt (i2 + Int32.ofInt (1)) fun x22 =>
        k4 (i1, x22) σ20
    else
      f_X7_worthByRule_186 k4 a0 i1 i2 i3 σ
theorem v_X7_worthByRule_154 {g : mm_G} (d : Nat) {k4 : (Int32 × Int32) → mm_S → Option (Int64 × mm_S)} {a0 : Nat} {i1 : Int32} {i2 : Int32} {i3 : Int32} {σ : mm_S} {res : Int64 × mm_S} (H4 : ∀ v σ, k4 v σ = some res → SV g (d + 1) yy_X7_worthByRule 4 [(0, .ref a0), (1, .int v.1), (2, .int v.2)] [] σ (.long res.1) res.2) (h_a0 : (mm_K a0).1 = 7) (h : f_X7_worthByRule_154 k4 a0 i1 i2 i3 σ = some res) : SV g (d + 1) yy_X7_worthByRule 154 [(0, .ref a0), (1, .int i1), (2, .int i2), (3, .int i3)] [] σ (.long res.1) res.2 := by
  unfold f_X7_worthByRule_154 at h
  refine e_iload_n 3 dX7_worthByRule_154 rfl rfl ?_
  refine e_bipush (v := (30 : Int32)) dX7_worthByRule_155 (by decide) ?_
  refine e_icmp_ne 186 dX7_worthByRule_157 (by decide) (fun c16 => ?_) (fun c16 => ?_)
  · rw [if_neg c16] at h
    refine s_pick (L' := [(0, .ref a0), (1, .int i1), (2, .int i2), (3, .int i3)]) [0, 1, 2, 3] rfl ?_
    exact v_X7_worthByRule_186 d H4 h_a0 h
  · rw [if_pos c16] at h
    refine e_iload_n 1 dX7_worthByRule_160 rfl rfl ?_
    refine e_iconst (v := (1 : Int32)) dX7_worthByRule_161 (by decide) ?_
    refine e_icmp_lt 186 dX7_worthByRule_162 (by decide) (fun c17 => ?_) (fun c17 => ?_)
    · rw [if_pos c17] at h
      refine s_pick (L' := [(0, .ref a0), (1, .int i1), (2, .int i2), (3, .int i3)]) [0, 1, 2, 3] rfl ?_
      exact v_X7_worthByRule_186 d H4 h_a0 h
    · rw [if_neg c17] at h
      refine e_aload_n 0 dX7_worthByRule_165 rfl rfl ?_
      refine s_getr dX7_worthByRule_166 fl_RX7_32 h_a0 (r_7_11 h_a0).1 ?_
      refine e_iload_n 1 dX7_worthByRule_169 rfl rfl ?_
      refine e_iconst (v := (1 : Int32)) dX7_worthByRule_170 (by decide) ?_
      refine e_isub dX7_worthByRule_171 ?_
      refine e_lconst (v := (1 : Int64)) dX7_worthByRule_172 (by decide) ?_
      refine e_aload_n 0 dX7_worthByRule_173 rfl rfl ?_
      refine s_getr dX7_worthByRule_174 fl_RX7_32 h_a0 (r_7_11 h_a0).1 ?_
      refine e_iload_n 1 dX7_worthByRule_177 rfl rfl ?_
      refine e_iconst (v := (1 : Int32)) dX7_worthByRule_178 (by decide) ?_
      refine e_isub dX7_worthByRule_179 ?_
      obtain ⟨q18, h⟩ := gd_some h
      refine s_lald dX7_worthByRule_180 (r_7_11 (w := 0) h_a0).2 q18 ?_
      refine e_lsub dX7_worthByRule_181 ?_
      obtain ⟨q19, h⟩ := gd_some h
      refine s_last dX7_worthByRule_182 (r_7_11 (w := 0) h_a0).2 q19 ?_
      obtain ⟨σ20, q21, h⟩ := lt_some h
      refine s_nms q21 ?_
      refine e_goto 220 dX7_worthByRule_183 (by decide) ?_
      obtain ⟨x22, q23, h⟩ := lt_some h
      refine e_iinc (v := x22) (L' := [(0, .ref a0), (1, .int i1), (2, .int x22), (3, .int i3)]) 2 dX7_worthByRule_220 rfl q23.symm (by decide) rfl ?_
      refine e_goto 4 dX7_worthByRule_223 (by decide) ?_
      refine s_pick (L' := [(0, .ref a0), (1, .int i1), (2, .int x22)]) [0, 1, 2] rfl ?_
      exact H4 (i1, x22) σ20 h
def f_X7_worthByRule_120 (k4 : (Int32 × Int32) → mm_S → Option (Int64 × mm_S)) (a0 : Nat) (i1 : Int32) (i2 : Int32) (i3 : Int32) (σ : mm_S) : Option (Int64 × mm_S) :=
    if i3 = (34 : Int32) then
      if i1 < (2 : Int32) then
        f_X7_worthByRule_154 k4 a0 i1 i2 i3 σ
      else
        lt (i1 + Int32.ofInt (-2)) fun x26 =>
        gd (x26 + (1 : Int32)) 48 <|
        if (lg_cmp (σ.2.1 210 (x26 + (1 : Int32)).toNatClampNeg) (0 : Int64)) = 0 then
          lt (i2 + Int32.ofInt (1)) fun x30 =>
          k4 (x26, x30) σ
        else
          gd x26 48 <|
          some ((σ.2.1 210 x26.toNatClampNeg), σ)
    else
      f_X7_worthByRule_154 k4 a0 i1 i2 i3 σ
theorem v_X7_worthByRule_120 {g : mm_G} (d : Nat) {k4 : (Int32 × Int32) → mm_S → Option (Int64 × mm_S)} {a0 : Nat} {i1 : Int32} {i2 : Int32} {i3 : Int32} {σ : mm_S} {res : Int64 × mm_S} (H4 : ∀ v σ, k4 v σ = some res → SV g (d + 1) yy_X7_worthByRule 4 [(0, .ref a0), (1, .int v.1), (2, .int v.2)] [] σ (.long res.1) res.2) (h_a0 : (mm_K a0).1 = 7) (h : f_X7_worthByRule_120 k4 a0 i1 i2 i3 σ = some res) : SV g (d + 1) yy_X7_worthByRule 120 [(0, .ref a0), (1, .int i1), (2, .int i2), (3, .int i3)] [] σ (.long res.1) res.2 := by
  unfold f_X7_worthByRule_120 at h
  refine e_iload_n 3 dX7_worthByRule_120 rfl rfl ?_
  refine e_bipush (v := (34 : Int32)) dX7_worthByRule_121 (by decide) ?_
  refine e_icmp_ne 154 dX7_worthByRule_123 (by decide) (fun c24 => ?_) (fun c24 => ?_)
  · rw [if_neg c24] at h
    refine s_pick (L' := [(0, .ref a0), (1, .int i1), (2, .int i2), (3, .int i3)]) [0, 1, 2, 3] rfl ?_
    exact v_X7_worthByRule_154 d H4 h_a0 h
  · rw [if_pos c24] at h
    refine e_iload_n 1 dX7_worthByRule_126 rfl rfl ?_
    refine e_iconst (v := (2 : Int32)) dX7_worthByRule_127 (by decide) ?_
    refine e_icmp_lt 154 dX7_worthByRule_128 (by decide) (fun c25 => ?_) (fun c25 => ?_)
    · rw [if_pos c25] at h
      refine s_pick (L' := [(0, .ref a0), (1, .int i1), (2, .int i2), (3, .int i3)]) [0, 1, 2, 3] rfl ?_
      exact v_X7_worthByRule_154 d H4 h_a0 h
    · rw [if_neg c25] at h
      obtain ⟨x26, q27, h⟩ := lt_some h
      refine e_iinc (v := x26) (L' := [(0, .ref a0), (1, .int x26), (2, .int i2), (3, .int i3)]) 1 dX7_worthByRule_131 rfl q27.symm (by decide) rfl ?_
      refine e_aload_n 0 dX7_worthByRule_134 rfl rfl ?_
      refine s_getr dX7_worthByRule_135 fl_RX7_32 h_a0 (r_7_11 h_a0).1 ?_
      refine e_iload_n 1 dX7_worthByRule_138 rfl rfl ?_
      refine e_iconst (v := (1 : Int32)) dX7_worthByRule_139 (by decide) ?_
      refine e_iadd dX7_worthByRule_140 ?_
      obtain ⟨q28, h⟩ := gd_some h
      refine s_lald dX7_worthByRule_141 (r_7_11 (w := 0) h_a0).2 q28 ?_
      refine e_lconst (v := (0 : Int64)) dX7_worthByRule_142 (by decide) ?_
      refine e_lcmp dX7_worthByRule_143 ?_
      refine e_if_eq 220 dX7_worthByRule_144 (by decide) (fun c29 => ?_) (fun c29 => ?_)
      · rw [if_pos c29] at h
        obtain ⟨x30, q31, h⟩ := lt_some h
        refine e_iinc (v := x30) (L' := [(0, .ref a0), (1, .int x26), (2, .int x30), (3, .int i3)]) 2 dX7_worthByRule_220 rfl q31.symm (by decide) rfl ?_
        refine e_goto 4 dX7_worthByRule_223 (by decide) ?_
        refine s_pick (L' := [(0, .ref a0), (1, .int x26), (2, .int x30)]) [0, 1, 2] rfl ?_
        exact H4 (x26, x30) σ h
      · rw [if_neg c29] at h
        refine e_aload_n 0 dX7_worthByRule_147 rfl rfl ?_
        refine s_getr dX7_worthByRule_148 fl_RX7_32 h_a0 (r_7_11 h_a0).1 ?_
        refine e_iload_n 1 dX7_worthByRule_151 rfl rfl ?_
        obtain ⟨q32, h⟩ := gd_some h
        refine s_lald dX7_worthByRule_152 (r_7_11 (w := 0) h_a0).2 q32 ?_
        obtain rfl := Option.some.inj h
        exact s_ret rfl ⟨_, rfl⟩ dX7_worthByRule_153
def f_X7_worthByRule_100 (k4 : (Int32 × Int32) → mm_S → Option (Int64 × mm_S)) (a0 : Nat) (i1 : Int32) (i2 : Int32) (i3 : Int32) (σ : mm_S) : Option (Int64 × mm_S) :=
    if i3 = (33 : Int32) then
      if i1 < (1 : Int32) then
        f_X7_worthByRule_120 k4 a0 i1 i2 i3 σ
      else
        gd (i1 - (1 : Int32)) 48 <|
        some ((σ.2.1 210 (i1 - (1 : Int32)).toNatClampNeg), σ)
    else
      f_X7_worthByRule_120 k4 a0 i1 i2 i3 σ
theorem v_X7_worthByRule_100 {g : mm_G} (d : Nat) {k4 : (Int32 × Int32) → mm_S → Option (Int64 × mm_S)} {a0 : Nat} {i1 : Int32} {i2 : Int32} {i3 : Int32} {σ : mm_S} {res : Int64 × mm_S} (H4 : ∀ v σ, k4 v σ = some res → SV g (d + 1) yy_X7_worthByRule 4 [(0, .ref a0), (1, .int v.1), (2, .int v.2)] [] σ (.long res.1) res.2) (h_a0 : (mm_K a0).1 = 7) (h : f_X7_worthByRule_100 k4 a0 i1 i2 i3 σ = some res) : SV g (d + 1) yy_X7_worthByRule 100 [(0, .ref a0), (1, .int i1), (2, .int i2), (3, .int i3)] [] σ (.long res.1) res.2 := by
  unfold f_X7_worthByRule_100 at h
  refine e_iload_n 3 dX7_worthByRule_100 rfl rfl ?_
  refine e_bipush (v := (33 : Int32)) dX7_worthByRule_101 (by decide) ?_
  refine e_icmp_ne 120 dX7_worthByRule_103 (by decide) (fun c33 => ?_) (fun c33 => ?_)
  · rw [if_neg c33] at h
    refine s_pick (L' := [(0, .ref a0), (1, .int i1), (2, .int i2), (3, .int i3)]) [0, 1, 2, 3] rfl ?_
    exact v_X7_worthByRule_120 d H4 h_a0 h
  · rw [if_pos c33] at h
    refine e_iload_n 1 dX7_worthByRule_106 rfl rfl ?_
    refine e_iconst (v := (1 : Int32)) dX7_worthByRule_107 (by decide) ?_
    refine e_icmp_lt 120 dX7_worthByRule_108 (by decide) (fun c34 => ?_) (fun c34 => ?_)
    · rw [if_pos c34] at h
      refine s_pick (L' := [(0, .ref a0), (1, .int i1), (2, .int i2), (3, .int i3)]) [0, 1, 2, 3] rfl ?_
      exact v_X7_worthByRule_120 d H4 h_a0 h
    · rw [if_neg c34] at h
      refine e_aload_n 0 dX7_worthByRule_111 rfl rfl ?_
      refine s_getr dX7_worthByRule_112 fl_RX7_32 h_a0 (r_7_11 h_a0).1 ?_
      refine e_iload_n 1 dX7_worthByRule_115 rfl rfl ?_
      refine e_iconst (v := (1 : Int32)) dX7_worthByRule_116 (by decide) ?_
      refine e_isub dX7_worthByRule_117 ?_
      obtain ⟨q35, h⟩ := gd_some h
      refine s_lald dX7_worthByRule_118 (r_7_11 (w := 0) h_a0).2 q35 ?_
      obtain rfl := Option.some.inj h
      exact s_ret rfl ⟨_, rfl⟩ dX7_worthByRule_119
def f_X7_worthByRule_66 (k4 : (Int32 × Int32) → mm_S → Option (Int64 × mm_S)) (a0 : Nat) (i1 : Int32) (i2 : Int32) (i3 : Int32) (σ : mm_S) : Option (Int64 × mm_S) :=
    if i3 < 0 then
      f_X7_worthByRule_100 k4 a0 i1 i2 i3 σ
    else
      if (13 : Int32) ≤ i3 then
        f_X7_worthByRule_100 k4 a0 i1 i2 i3 σ
      else
        if (48 : Int32) ≤ i1 then
          f_X7_worthByRule_100 k4 a0 i1 i2 i3 σ
        else
          gd i3 13 <|
          gd i1 48 <|
          lt (su_j σ 210 i1.toNatClampNeg (σ.2.1 209 i3.toNatClampNeg)) fun σ41 =>
          lt (i1 + Int32.ofInt (1)) fun x43 =>
          lt (i2 + Int32.ofInt (1)) fun x45 =>
          k4 (x43, x45) σ41
theorem v_X7_worthByRule_66 {g : mm_G} (d : Nat) {k4 : (Int32 × Int32) → mm_S → Option (Int64 × mm_S)} {a0 : Nat} {i1 : Int32} {i2 : Int32} {i3 : Int32} {σ : mm_S} {res : Int64 × mm_S} (H4 : ∀ v σ, k4 v σ = some res → SV g (d + 1) yy_X7_worthByRule 4 [(0, .ref a0), (1, .int v.1), (2, .int v.2)] [] σ (.long res.1) res.2) (h_a0 : (mm_K a0).1 = 7) (h : f_X7_worthByRule_66 k4 a0 i1 i2 i3 σ = some res) : SV g (d + 1) yy_X7_worthByRule 66 [(0, .ref a0), (1, .int i1), (2, .int i2), (3, .int i3)] [] σ (.long res.1) res.2 := by
  unfold f_X7_worthByRule_66 at h
  refine e_iload_n 3 dX7_worthByRule_66 rfl rfl ?_
  refine e_if_lt 100 dX7_worthByRule_67 (by decide) (fun c36 => ?_) (fun c36 => ?_)
  · rw [if_pos c36] at h
    refine s_pick (L' := [(0, .ref a0), (1, .int i1), (2, .int i2), (3, .int i3)]) [0, 1, 2, 3] rfl ?_
    exact v_X7_worthByRule_100 d H4 h_a0 h
  · rw [if_neg c36] at h
    refine e_iload_n 3 dX7_worthByRule_70 rfl rfl ?_
    refine e_bipush (v := (13 : Int32)) dX7_worthByRule_71 (by decide) ?_
    refine e_icmp_ge 100 dX7_worthByRule_73 (by decide) (fun c37 => ?_) (fun c37 => ?_)
    · rw [if_pos c37] at h
      refine s_pick (L' := [(0, .ref a0), (1, .int i1), (2, .int i2), (3, .int i3)]) [0, 1, 2, 3] rfl ?_
      exact v_X7_worthByRule_100 d H4 h_a0 h
    · rw [if_neg c37] at h
      refine e_iload_n 1 dX7_worthByRule_76 rfl rfl ?_
      refine e_bipush (v := (48 : Int32)) dX7_worthByRule_77 (by decide) ?_
      refine e_icmp_ge 100 dX7_worthByRule_79 (by decide) (fun c38 => ?_) (fun c38 => ?_)
      · rw [if_pos c38] at h
        refine s_pick (L' := [(0, .ref a0), (1, .int i1), (2, .int i2), (3, .int i3)]) [0, 1, 2, 3] rfl ?_
        exact v_X7_worthByRule_100 d H4 h_a0 h
      · rw [if_neg c38] at h
        refine e_aload_n 0 dX7_worthByRule_82 rfl rfl ?_
        refine s_getr dX7_worthByRule_83 fl_RX7_32 h_a0 (r_7_11 h_a0).1 ?_
        refine e_iload_n 1 dX7_worthByRule_86 rfl rfl ?_
        refine e_aload_n 0 dX7_worthByRule_87 rfl rfl ?_
        refine s_getr dX7_worthByRule_88 fl_RX7_28 h_a0 (r_7_10 h_a0).1 ?_
        refine e_iload_n 3 dX7_worthByRule_91 rfl rfl ?_
        obtain ⟨q39, h⟩ := gd_some h
        refine s_lald dX7_worthByRule_92 (r_7_10 (w := 0) h_a0).2 q39 ?_
        obtain ⟨q40, h⟩ := gd_some h
        refine s_last dX7_worthByRule_93 (r_7_11 (w := 0) h_a0).2 q40 ?_
        obtain ⟨σ41, q42, h⟩ := lt_some h
        refine s_nms q42 ?_
        obtain ⟨x43, q44, h⟩ := lt_some h
        refine e_iinc (v := x43) (L' := [(0, .ref a0), (1, .int x43), (2, .int i2), (3, .int i3)]) 1 dX7_worthByRule_94 rfl q44.symm (by decide) rfl ?_
        refine e_goto 220 dX7_worthByRule_97 (by decide) ?_
        obtain ⟨x45, q46, h⟩ := lt_some h
        refine e_iinc (v := x45) (L' := [(0, .ref a0), (1, .int x43), (2, .int x45), (3, .int i3)]) 2 dX7_worthByRule_220 rfl q46.symm (by decide) rfl ?_
        refine e_goto 4 dX7_worthByRule_223 (by decide) ?_
        refine s_pick (L' := [(0, .ref a0), (1, .int x43), (2, .int x45)]) [0, 1, 2] rfl ?_
        exact H4 (x43, x45) σ41 h
def f_X7_worthByRule_4 (a0 : Nat) (i1 : Int32) (i2 : Int32) (σ : mm_S) : Option (Int64 × mm_S) :=
  lp lpN (fun (k4 : (Int32 × Int32) → mm_S → Option (Int64 × mm_S)) (v : Int32 × Int32) (σ : mm_S) =>
    gz (decide ((mm_K σ.2.2).1 = 5)) <|
    if (σ.1 σ.2.2 1) ≤ v.2 then
      some ((0 : Int64), σ)
    else
      gz (decide ((mm_K σ.2.2).1 = 5)) <|
      if (Int32.ofNat 400) ≤ v.2 then
        some ((0 : Int64), σ)
      else
        gz (decide ((mm_K σ.2.2).1 = 5)) <|
        gd v.2 400 <|
        lt ((σ.1 (σ.2.2 + 1) v.2.toNatClampNeg)) fun x56 =>
        if x56 < (40 : Int32) then
          f_X7_worthByRule_66 k4 a0 v.1 v.2 x56 σ
        else
          if (48 : Int32) ≤ v.1 then
            f_X7_worthByRule_66 k4 a0 v.1 v.2 x56 σ
          else
            gd v.1 48 <|
            lt (su_j σ 210 v.1.toNatClampNeg ((x56 - (40 : Int32)) : Int32).toInt64) fun σ61 =>
            lt (v.1 + Int32.ofInt (1)) fun x63 =>
            lt (v.2 + Int32.ofInt (1)) fun x65 =>
            k4 (x63, x65) σ61) (i1, i2) σ
theorem v_X7_worthByRule_4 {g : mm_G} (d : Nat) {a0 : Nat} {i1 : Int32} {i2 : Int32} {σ : mm_S} {res : Int64 × mm_S}  (h_a0 : (mm_K a0).1 = 7) (h : f_X7_worthByRule_4 a0 i1 i2 σ = some res) : SV g (d + 1) yy_X7_worthByRule 4 [(0, .ref a0), (1, .int i1), (2, .int i2)] [] σ (.long res.1) res.2 := by
  unfold f_X7_worthByRule_4 at h
  refine lp_ind (P := fun v σ => SV g (d + 1) yy_X7_worthByRule 4 [(0, .ref a0), (1, .int v.1), (2, .int v.2)] [] σ (.long res.1) res.2) (fun k4 H4 v σ h => ?_) _ (i1, i2) σ h
  refine e_iload_n 2 dX7_worthByRule_4 rfl rfl ?_
  refine e_aload_n 0 dX7_worthByRule_5 rfl rfl ?_
  obtain ⟨q48, h⟩ := gz_some h
  refine s_gw dX7_worthByRule_6 fl_RX7_39 h_a0 ?_
  refine s_geti dX7_worthByRule_9 fl_RX7_149 (of_decide_eq_true q48) ?_
  refine e_icmp_ge 226 dX7_worthByRule_12 (by decide) (fun c49 => ?_) (fun c49 => ?_)
  · rw [if_pos c49] at h
    refine e_lconst (v := (0 : Int64)) dX7_worthByRule_226 (by decide) ?_
    obtain rfl := Option.some.inj h
    exact s_ret rfl ⟨_, rfl⟩ dX7_worthByRule_227
  · rw [if_neg c49] at h
    refine e_iload_n 2 dX7_worthByRule_15 rfl rfl ?_
    refine e_aload_n 0 dX7_worthByRule_16 rfl rfl ?_
    obtain ⟨q51, h⟩ := gz_some h
    refine s_gw dX7_worthByRule_17 fl_RX7_39 h_a0 ?_
    refine s_getr dX7_worthByRule_20 fl_RX7_154 (of_decide_eq_true q51) (r_5_0 (of_decide_eq_true q51)).1 ?_
    refine s_alen dX7_worthByRule_23 (r_5_0 (w := 0) (of_decide_eq_true q51)).2 ⟨by decide, by decide⟩ rfl ?_
    refine e_icmp_ge 226 dX7_worthByRule_24 (by decide) (fun c52 => ?_) (fun c52 => ?_)
    · rw [if_pos c52] at h
      refine e_lconst (v := (0 : Int64)) dX7_worthByRule_226 (by decide) ?_
      obtain rfl := Option.some.inj h
      exact s_ret rfl ⟨_, rfl⟩ dX7_worthByRule_227
    · rw [if_neg c52] at h
      refine e_aload_n 0 dX7_worthByRule_27 rfl rfl ?_
      obtain ⟨q54, h⟩ := gz_some h
      refine s_gw dX7_worthByRule_28 fl_RX7_39 h_a0 ?_
      refine s_getr dX7_worthByRule_31 fl_RX7_154 (of_decide_eq_true q54) (r_5_0 (of_decide_eq_true q54)).1 ?_
      refine e_iload_n 2 dX7_worthByRule_34 rfl rfl ?_
      obtain ⟨q55, h⟩ := gd_some h
      refine s_iald dX7_worthByRule_35 (r_5_0 (w := 0) (of_decide_eq_true q54)).2 q55 ?_
      obtain ⟨x56, q57, h⟩ := lt_some h
      refine s_nmi q57 ?_
      refine e_istore_n (L' := [(0, .ref a0), (1, .int v.1), (2, .int v.2), (3, .int x56)]) dX7_worthByRule_36 rfl (by decide) rfl ?_
      refine e_iload_n 3 dX7_worthByRule_37 rfl rfl ?_
      refine e_bipush (v := (40 : Int32)) dX7_worthByRule_38 (by decide) ?_
      refine e_icmp_lt 66 dX7_worthByRule_40 (by decide) (fun c58 => ?_) (fun c58 => ?_)
      · rw [if_pos c58] at h
        refine s_pick (L' := [(0, .ref a0), (1, .int v.1), (2, .int v.2), (3, .int x56)]) [0, 1, 2, 3] rfl ?_
        exact v_X7_worthByRule_66 d H4 h_a0 h
      · rw [if_neg c58] at h
        refine e_iload_n 1 dX7_worthByRule_43 rfl rfl ?_
        refine e_bipush (v := (48 : Int32)) dX7_worthByRule_44 (by decide) ?_
        refine e_icmp_ge 66 dX7_worthByRule_46 (by decide) (fun c59 => ?_) (fun c59 => ?_)
        · rw [if_pos c59] at h
          refine s_pick (L' := [(0, .ref a0), (1, .int v.1), (2, .int v.2), (3, .int x56)]) [0, 1, 2, 3] rfl ?_
          exact v_X7_worthByRule_66 d H4 h_a0 h
        · rw [if_neg c59] at h
          refine e_aload_n 0 dX7_worthByRule_49 rfl rfl ?_
          refine s_getr dX7_worthByRule_50 fl_RX7_32 h_a0 (r_7_11 h_a0).1 ?_
          refine e_iload_n 1 dX7_worthByRule_53 rfl rfl ?_
          refine e_iload_n 3 dX7_worthByRule_54 rfl rfl ?_
          refine e_bipush (v := (40 : Int32)) dX7_worthByRule_55 (by decide) ?_
          refine e_isub dX7_worthByRule_57 ?_
          refine e_i2l dX7_worthByRule_58 ?_
          obtain ⟨q60, h⟩ := gd_some h
          refine s_last dX7_worthByRule_59 (r_7_11 (w := 0) h_a0).2 q60 ?_
          obtain ⟨σ61, q62, h⟩ := lt_some h
          refine s_nms q62 ?_
          obtain ⟨x63, q64, h⟩ := lt_some h
          refine e_iinc (v := x63) (L' := [(0, .ref a0), (1, .int x63), (2, .int v.2), (3, .int x56)]) 1 dX7_worthByRule_60 rfl q64.symm (by decide) rfl ?_
          refine e_goto 220 dX7_worthByRule_63 (by decide) ?_
          obtain ⟨x65, q66, h⟩ := lt_some h
          refine e_iinc (v := x65) (L' := [(0, .ref a0), (1, .int x63), (2, .int x65), (3, .int x56)]) 2 dX7_worthByRule_220 rfl q66.symm (by decide) rfl ?_
          refine e_goto 4 dX7_worthByRule_223 (by decide) ?_
          refine s_pick (L' := [(0, .ref a0), (1, .int x63), (2, .int x65)]) [0, 1, 2] rfl ?_
          exact H4 (x63, x65) σ61 h
def f_X7_worthByRule (a0 : Nat) (σ : mm_S) : Option (Int64 × mm_S) :=
    f_X7_worthByRule_4 a0 (0 : Int32) (0 : Int32) σ
theorem v_X7_worthByRule {g : mm_G} (d : Nat) {a0 : Nat} {σ : mm_S} {res : Int64 × mm_S} (h_a0 : (mm_K a0).1 = 7) (h : f_X7_worthByRule a0 σ = some res) : SM g (d + 1) yy_X7_worthByRule [.ref a0] σ (.long res.1) res.2 := by
  refine s_of (by decide) (Nat.le_of_ble_eq_true rfl) (L := [(0, .ref a0)]) rfl ?_
  unfold f_X7_worthByRule at h
  refine e_iconst (v := (0 : Int32)) dX7_worthByRule_0 (by decide) ?_
  refine e_istore_n (L' := [(0, .ref a0), (1, .int (0 : Int32))]) dX7_worthByRule_1 rfl (by decide) rfl ?_
  refine e_iconst (v := (0 : Int32)) dX7_worthByRule_2 (by decide) ?_
  refine e_istore_n (L' := [(0, .ref a0), (1, .int (0 : Int32)), (2, .int (0 : Int32))]) dX7_worthByRule_3 rfl (by decide) rfl ?_
  refine s_pick (L' := [(0, .ref a0), (1, .int (0 : Int32)), (2, .int (0 : Int32))]) [0, 1, 2] rfl ?_
  exact v_X7_worthByRule_4 d h_a0 h
