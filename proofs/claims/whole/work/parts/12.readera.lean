abbrev yy_X4_isLetter : mm_Y := (yX4_isLetter, cX4_isLetter, 2, (some .boolean))
theorem dX4_isLetter_0 : decode cX4_isLetter 0 = .ok (.aload_n 0, 1) := by decide +kernel
theorem dX4_isLetter_1 : decode cX4_isLetter 1 = .ok (.getfield 21, 3) := by decide +kernel
theorem dX4_isLetter_4 : decode cX4_isLetter 4 = .ok (.getfield 83, 3) := by decide +kernel
theorem dX4_isLetter_7 : decode cX4_isLetter 7 = .ok (.iload_n 1, 1) := by decide +kernel
theorem dX4_isLetter_8 : decode cX4_isLetter 8 = .ok (.baload, 1) := by decide +kernel
theorem dX4_isLetter_9 : decode cX4_isLetter 9 = .ok (.bipush 97, 2) := by decide +kernel
theorem dX4_isLetter_11 : decode cX4_isLetter 11 = .ok (.if_icmp .lt 21, 3) := by decide +kernel
theorem dX4_isLetter_14 : decode cX4_isLetter 14 = .ok (.aload_n 0, 1) := by decide +kernel
theorem dX4_isLetter_15 : decode cX4_isLetter 15 = .ok (.getfield 21, 3) := by decide +kernel
theorem dX4_isLetter_18 : decode cX4_isLetter 18 = .ok (.getfield 83, 3) := by decide +kernel
theorem dX4_isLetter_21 : decode cX4_isLetter 21 = .ok (.iload_n 1, 1) := by decide +kernel
theorem dX4_isLetter_22 : decode cX4_isLetter 22 = .ok (.baload, 1) := by decide +kernel
theorem dX4_isLetter_23 : decode cX4_isLetter 23 = .ok (.bipush 122, 2) := by decide +kernel
theorem dX4_isLetter_25 : decode cX4_isLetter 25 = .ok (.if_icmp .gt 7, 3) := by decide +kernel
theorem dX4_isLetter_28 : decode cX4_isLetter 28 = .ok (.iconst 1, 1) := by decide +kernel
theorem dX4_isLetter_29 : decode cX4_isLetter 29 = .ok (.goto 4, 3) := by decide +kernel
theorem dX4_isLetter_32 : decode cX4_isLetter 32 = .ok (.iconst 0, 1) := by decide +kernel
theorem dX4_isLetter_33 : decode cX4_isLetter 33 = .ok (.ireturn, 1) := by decide +kernel
def f_X4_isLetter (a0 : Nat) (i1 : Int32) (σ : mm_S) : Option (Int32 × mm_S) :=
    gd i1 400 <|
    if (σ.1 2 i1.toNatClampNeg) < (97 : Int32) then
      some ((0 : Int32), σ)
    else
      gd i1 400 <|
      if (122 : Int32) < (σ.1 2 i1.toNatClampNeg) then
        some ((0 : Int32), σ)
      else
        some ((1 : Int32), σ)
theorem v_X4_isLetter {g : mm_G} (d : Nat) {a0 : Nat} {i1 : Int32} {σ : mm_S} {res : Int32 × mm_S} (h_a0 : (mm_K a0).1 = 4) (h : f_X4_isLetter a0 i1 σ = some res) : SM g (d + 0) yy_X4_isLetter [.ref a0, .int i1] σ (.int res.1) res.2 := by
  refine s_of (by decide) (Nat.le_of_ble_eq_true rfl) (L := [(0, .ref a0), (1, .int i1)]) rfl ?_
  unfold f_X4_isLetter at h
  refine e_aload_n 0 dX4_isLetter_0 rfl rfl ?_
  refine s_getr dX4_isLetter_1 fl_RX4_21 h_a0 (r_4_0 h_a0).1 ?_
  refine s_getr dX4_isLetter_4 fl_RX4_83 (ka_1 (r_4_0 (w := 0) h_a0).2) (r_6_0 (ka_1 (r_4_0 (w := 0) h_a0).2)).1 ?_
  refine e_iload_n 1 dX4_isLetter_7 rfl rfl ?_
  obtain ⟨q5, h⟩ := gd_some h
  refine s_bald dX4_isLetter_8 (r_6_0 (w := 0) (ka_1 (r_4_0 (w := 0) h_a0).2)).2 q5 ?_
  refine e_bipush (v := (97 : Int32)) dX4_isLetter_9 (by decide) ?_
  refine e_icmp_lt 32 dX4_isLetter_11 (by decide) (fun c6 => ?_) (fun c6 => ?_)
  · rw [if_pos c6] at h
    refine e_iconst (v := (0 : Int32)) dX4_isLetter_32 (by decide) ?_
    obtain rfl := Option.some.inj h
    exact s_ret rfl ⟨_, rfl, nb1 (Or.inl rfl)⟩ dX4_isLetter_33
  · rw [if_neg c6] at h
    refine e_aload_n 0 dX4_isLetter_14 rfl rfl ?_
    refine s_getr dX4_isLetter_15 fl_RX4_21 h_a0 (r_4_0 h_a0).1 ?_
    refine s_getr dX4_isLetter_18 fl_RX4_83 (ka_1 (r_4_0 (w := 0) h_a0).2) (r_6_0 (ka_1 (r_4_0 (w := 0) h_a0).2)).1 ?_
    refine e_iload_n 1 dX4_isLetter_21 rfl rfl ?_
    obtain ⟨q7, h⟩ := gd_some h
    refine s_bald dX4_isLetter_22 (r_6_0 (w := 0) (ka_1 (r_4_0 (w := 0) h_a0).2)).2 q7 ?_
    refine e_bipush (v := (122 : Int32)) dX4_isLetter_23 (by decide) ?_
    refine e_icmp_gt 32 dX4_isLetter_25 (by decide) (fun c8 => ?_) (fun c8 => ?_)
    · rw [if_pos c8] at h
      refine e_iconst (v := (0 : Int32)) dX4_isLetter_32 (by decide) ?_
      obtain rfl := Option.some.inj h
      exact s_ret rfl ⟨_, rfl, nb1 (Or.inl rfl)⟩ dX4_isLetter_33
    · rw [if_neg c8] at h
      refine e_iconst (v := (1 : Int32)) dX4_isLetter_28 (by decide) ?_
      refine e_goto 33 dX4_isLetter_29 (by decide) ?_
      obtain rfl := Option.some.inj h
      exact s_ret rfl ⟨_, rfl, nb1 (Or.inr rfl)⟩ dX4_isLetter_33
abbrev yy_X4_wordEnd : mm_Y := (yX4_wordEnd, cX4_wordEnd, 3, (some .int))
theorem dX4_wordEnd_0 : decode cX4_wordEnd 0 = .ok (.iload_n 1, 1) := by decide +kernel
theorem dX4_wordEnd_1 : decode cX4_wordEnd 1 = .ok (.iconst 1, 1) := by decide +kernel
theorem dX4_wordEnd_2 : decode cX4_wordEnd 2 = .ok (.iadd, 1) := by decide +kernel
theorem dX4_wordEnd_3 : decode cX4_wordEnd 3 = .ok (.istore_n 2, 1) := by decide +kernel
theorem dX4_wordEnd_4 : decode cX4_wordEnd 4 = .ok (.iload_n 2, 1) := by decide +kernel
theorem dX4_wordEnd_5 : decode cX4_wordEnd 5 = .ok (.aload_n 0, 1) := by decide +kernel
theorem dX4_wordEnd_6 : decode cX4_wordEnd 6 = .ok (.getfield 21, 3) := by decide +kernel
theorem dX4_wordEnd_9 : decode cX4_wordEnd 9 = .ok (.getfield 53, 3) := by decide +kernel
theorem dX4_wordEnd_12 : decode cX4_wordEnd 12 = .ok (.if_icmp .ge 17, 3) := by decide +kernel
theorem dX4_wordEnd_15 : decode cX4_wordEnd 15 = .ok (.aload_n 0, 1) := by decide +kernel
theorem dX4_wordEnd_16 : decode cX4_wordEnd 16 = .ok (.iload_n 2, 1) := by decide +kernel
theorem dX4_wordEnd_17 : decode cX4_wordEnd 17 = .ok (.invokevirtual 58, 3) := by decide +kernel
theorem dX4_wordEnd_20 : decode cX4_wordEnd 20 = .ok (.ifCond .eq 9, 3) := by decide +kernel
theorem dX4_wordEnd_23 : decode cX4_wordEnd 23 = .ok (.iinc 2 1, 3) := by decide +kernel
theorem dX4_wordEnd_26 : decode cX4_wordEnd 26 = .ok (.goto (-22), 3) := by decide +kernel
theorem dX4_wordEnd_29 : decode cX4_wordEnd 29 = .ok (.iload_n 2, 1) := by decide +kernel
theorem dX4_wordEnd_30 : decode cX4_wordEnd 30 = .ok (.ireturn, 1) := by decide +kernel
def f_X4_wordEnd_4 (a0 : Nat) (i2 : Int32) (σ : mm_S) : Option (Int32 × mm_S) :=
  lp lpN (fun (k4 : (Int32) → mm_S → Option (Int32 × mm_S)) (v : Int32) (σ : mm_S) =>
    if (σ.1 1 1) ≤ v then
      some (v, σ)
    else
      bd (f_X4_isLetter a0 v σ) fun r4 σ3 =>
      if r4 = 0 then
        some (v, σ3)
      else
        lt (v + Int32.ofInt (1)) fun x6 =>
        k4 x6 σ3) i2 σ
theorem v_X4_wordEnd_4 {g : mm_G} (d : Nat) {a0 : Nat} {i2 : Int32} {σ : mm_S} {res : Int32 × mm_S}  (h_a0 : (mm_K a0).1 = 4) (h : f_X4_wordEnd_4 a0 i2 σ = some res) : SV g (d + 1) yy_X4_wordEnd 4 [(0, .ref a0), (2, .int i2)] [] σ (.int res.1) res.2 := by
  unfold f_X4_wordEnd_4 at h
  refine lp_ind (P := fun v σ => SV g (d + 1) yy_X4_wordEnd 4 [(0, .ref a0), (2, .int v)] [] σ (.int res.1) res.2) (fun k4 H4 v σ h => ?_) _ i2 σ h
  refine e_iload_n 1 dX4_wordEnd_4 rfl rfl ?_
  refine e_aload_n 0 dX4_wordEnd_5 rfl rfl ?_
  refine s_getr dX4_wordEnd_6 fl_RX4_21 h_a0 (r_4_0 h_a0).1 ?_
  refine s_geti dX4_wordEnd_9 fl_RX4_53 (ka_1 (r_4_0 (w := 0) h_a0).2) ?_
  refine e_icmp_ge 29 dX4_wordEnd_12 (by decide) (fun c1 => ?_) (fun c1 => ?_)
  · rw [if_pos c1] at h
    refine e_iload_n 1 dX4_wordEnd_29 rfl rfl ?_
    obtain rfl := Option.some.inj h
    exact s_ret rfl ⟨_, rfl, rfl⟩ dX4_wordEnd_30
  · rw [if_neg c1] at h
    refine e_aload_n 0 dX4_wordEnd_15 rfl rfl ?_
    refine e_iload_n 1 dX4_wordEnd_16 rfl rfl ?_
    obtain ⟨r4, σ3, q2, h⟩ := bd_some h
    refine s_callVi [.int v] dX4_wordEnd_17 ml_RX4_58 h_a0 ⟨_, rfl, by decide⟩ rfl (v_X4_isLetter (d + 0) h_a0 q2) (Nat.le_of_ble_eq_true rfl) ?_
    refine e_if_eq 29 dX4_wordEnd_20 (by decide) (fun c5 => ?_) (fun c5 => ?_)
    · rw [if_pos c5] at h
      refine e_iload_n 1 dX4_wordEnd_29 rfl rfl ?_
      obtain rfl := Option.some.inj h
      exact s_ret rfl ⟨_, rfl, rfl⟩ dX4_wordEnd_30
    · rw [if_neg c5] at h
      obtain ⟨x6, q7, h⟩ := lt_some h
      refine e_iinc (v := x6) (L' := [(0, .ref a0), (2, .int x6)]) 1 dX4_wordEnd_23 rfl q7.symm (by decide) rfl ?_
      refine e_goto 4 dX4_wordEnd_26 (by decide) ?_
      refine s_pick (L' := [(0, .ref a0), (2, .int x6)]) [0, 1] rfl ?_
      exact H4 x6 σ3 h
def f_X4_wordEnd (a0 : Nat) (i1 : Int32) (σ : mm_S) : Option (Int32 × mm_S) :=
    lt ((i1 + (1 : Int32))) fun x10 =>
    f_X4_wordEnd_4 a0 x10 σ
theorem v_X4_wordEnd {g : mm_G} (d : Nat) {a0 : Nat} {i1 : Int32} {σ : mm_S} {res : Int32 × mm_S} (h_a0 : (mm_K a0).1 = 4) (h : f_X4_wordEnd a0 i1 σ = some res) : SM g (d + 1) yy_X4_wordEnd [.ref a0, .int i1] σ (.int res.1) res.2 := by
  refine s_of (by decide) (Nat.le_of_ble_eq_true rfl) (L := [(0, .ref a0), (1, .int i1)]) rfl ?_
  unfold f_X4_wordEnd at h
  refine e_iload_n 1 dX4_wordEnd_0 rfl rfl ?_
  refine e_iconst (v := (1 : Int32)) dX4_wordEnd_1 (by decide) ?_
  refine e_iadd dX4_wordEnd_2 ?_
  obtain ⟨x10, q11, h⟩ := lt_some h
  refine s_nmi q11 ?_
  refine e_istore_n (L' := [(0, .ref a0), (1, .int i1), (2, .int x10)]) dX4_wordEnd_3 rfl (by decide) rfl ?_
  refine s_pick (L' := [(0, .ref a0), (2, .int x10)]) [0, 2] rfl ?_
  exact v_X4_wordEnd_4 d h_a0 h
abbrev yy_X4_addPiece : mm_Y := (yX4_addPiece, cX4_addPiece, 4, none)
theorem dX4_addPiece_0 : decode cX4_addPiece 0 = .ok (.aload_n 0, 1) := by decide +kernel
theorem dX4_addPiece_1 : decode cX4_addPiece 1 = .ok (.getfield 41, 3) := by decide +kernel
theorem dX4_addPiece_4 : decode cX4_addPiece 4 = .ok (.sipush 400, 3) := by decide +kernel
theorem dX4_addPiece_7 : decode cX4_addPiece 7 = .ok (.if_icmp .gt 43, 3) := by decide +kernel
theorem dX4_addPiece_10 : decode cX4_addPiece 10 = .ok (.aload_n 0, 1) := by decide +kernel
theorem dX4_addPiece_11 : decode cX4_addPiece 11 = .ok (.getfield 9, 3) := by decide +kernel
theorem dX4_addPiece_14 : decode cX4_addPiece 14 = .ok (.aload_n 0, 1) := by decide +kernel
theorem dX4_addPiece_15 : decode cX4_addPiece 15 = .ok (.getfield 41, 3) := by decide +kernel
theorem dX4_addPiece_18 : decode cX4_addPiece 18 = .ok (.iload_n 1, 1) := by decide +kernel
theorem dX4_addPiece_19 : decode cX4_addPiece 19 = .ok (.iastore, 1) := by decide +kernel
theorem dX4_addPiece_20 : decode cX4_addPiece 20 = .ok (.aload_n 0, 1) := by decide +kernel
theorem dX4_addPiece_21 : decode cX4_addPiece 21 = .ok (.getfield 15, 3) := by decide +kernel
theorem dX4_addPiece_24 : decode cX4_addPiece 24 = .ok (.aload_n 0, 1) := by decide +kernel
theorem dX4_addPiece_25 : decode cX4_addPiece 25 = .ok (.getfield 41, 3) := by decide +kernel
theorem dX4_addPiece_28 : decode cX4_addPiece 28 = .ok (.iload_n 2, 1) := by decide +kernel
theorem dX4_addPiece_29 : decode cX4_addPiece 29 = .ok (.iastore, 1) := by decide +kernel
theorem dX4_addPiece_30 : decode cX4_addPiece 30 = .ok (.aload_n 0, 1) := by decide +kernel
theorem dX4_addPiece_31 : decode cX4_addPiece 31 = .ok (.getfield 18, 3) := by decide +kernel
theorem dX4_addPiece_34 : decode cX4_addPiece 34 = .ok (.aload_n 0, 1) := by decide +kernel
theorem dX4_addPiece_35 : decode cX4_addPiece 35 = .ok (.getfield 41, 3) := by decide +kernel
theorem dX4_addPiece_38 : decode cX4_addPiece 38 = .ok (.iload_n 3, 1) := by decide +kernel
theorem dX4_addPiece_39 : decode cX4_addPiece 39 = .ok (.iastore, 1) := by decide +kernel
theorem dX4_addPiece_40 : decode cX4_addPiece 40 = .ok (.aload_n 0, 1) := by decide +kernel
theorem dX4_addPiece_41 : decode cX4_addPiece 41 = .ok (.dup, 1) := by decide +kernel
theorem dX4_addPiece_42 : decode cX4_addPiece 42 = .ok (.getfield 41, 3) := by decide +kernel
theorem dX4_addPiece_45 : decode cX4_addPiece 45 = .ok (.iconst 1, 1) := by decide +kernel
theorem dX4_addPiece_46 : decode cX4_addPiece 46 = .ok (.iadd, 1) := by decide +kernel
theorem dX4_addPiece_47 : decode cX4_addPiece 47 = .ok (.putfield 41, 3) := by decide +kernel
theorem dX4_addPiece_50 : decode cX4_addPiece 50 = .ok (.return_, 1) := by decide +kernel
def f_X4_addPiece (a0 : Nat) (i1 : Int32) (i2 : Int32) (i3 : Int32) (σ : mm_S) : Option (mm_S) :=
    if (400 : Int32) < (σ.1 a0 4) then
      some σ
    else
      gd (σ.1 a0 4) 401 <|
      lt (su_i σ 4 (σ.1 a0 4).toNatClampNeg i1) fun σ15 =>
      gd (σ15.1 a0 4) 401 <|
      lt (su_i σ15 5 (σ15.1 a0 4).toNatClampNeg i2) fun σ18 =>
      gd (σ18.1 a0 4) 401 <|
      lt (su_i σ18 6 (σ18.1 a0 4).toNatClampNeg i3) fun σ21 =>
      lt (su_i σ21 a0 4 ((σ21.1 a0 4) + (1 : Int32))) fun σ23 =>
      some σ23
theorem v_X4_addPiece {g : mm_G} (d : Nat) {a0 : Nat} {i1 : Int32} {i2 : Int32} {i3 : Int32} {σ : mm_S} {res : mm_S} (h_a0 : (mm_K a0).1 = 4) (h : f_X4_addPiece a0 i1 i2 i3 σ = some res) : SM g (d + 0) yy_X4_addPiece [.ref a0, .int i1, .int i2, .int i3] σ .null res := by
  refine s_of (by decide) (Nat.le_of_ble_eq_true rfl) (L := [(0, .ref a0), (1, .int i1), (2, .int i2), (3, .int i3)]) rfl ?_
  unfold f_X4_addPiece at h
  refine e_aload_n 0 dX4_addPiece_0 rfl rfl ?_
  refine s_geti dX4_addPiece_1 fl_RX4_41 h_a0 ?_
  refine e_sipush (v := (400 : Int32)) dX4_addPiece_4 (by decide) ?_
  refine e_icmp_gt 50 dX4_addPiece_7 (by decide) (fun c13 => ?_) (fun c13 => ?_)
  · rw [if_pos c13] at h
    obtain rfl := Option.some.inj h
    exact s_ret rfl rfl dX4_addPiece_50
  · rw [if_neg c13] at h
    refine e_aload_n 0 dX4_addPiece_10 rfl rfl ?_
    refine s_getr dX4_addPiece_11 fl_RX4_9 h_a0 (r_4_1 h_a0).1 ?_
    refine e_aload_n 0 dX4_addPiece_14 rfl rfl ?_
    refine s_geti dX4_addPiece_15 fl_RX4_41 h_a0 ?_
    refine e_iload_n 1 dX4_addPiece_18 rfl rfl ?_
    obtain ⟨q14, h⟩ := gd_some h
    refine s_iast dX4_addPiece_19 (r_4_1 (w := 0) h_a0).2 q14 ?_
    obtain ⟨σ15, q16, h⟩ := lt_some h
    refine s_nms q16 ?_
    refine e_aload_n 0 dX4_addPiece_20 rfl rfl ?_
    refine s_getr dX4_addPiece_21 fl_RX4_15 h_a0 (r_4_2 h_a0).1 ?_
    refine e_aload_n 0 dX4_addPiece_24 rfl rfl ?_
    refine s_geti dX4_addPiece_25 fl_RX4_41 h_a0 ?_
    refine e_iload_n 2 dX4_addPiece_28 rfl rfl ?_
    obtain ⟨q17, h⟩ := gd_some h
    refine s_iast dX4_addPiece_29 (r_4_2 (w := 0) h_a0).2 q17 ?_
    obtain ⟨σ18, q19, h⟩ := lt_some h
    refine s_nms q19 ?_
    refine e_aload_n 0 dX4_addPiece_30 rfl rfl ?_
    refine s_getr dX4_addPiece_31 fl_RX4_18 h_a0 (r_4_3 h_a0).1 ?_
    refine e_aload_n 0 dX4_addPiece_34 rfl rfl ?_
    refine s_geti dX4_addPiece_35 fl_RX4_41 h_a0 ?_
    refine e_iload_n 3 dX4_addPiece_38 rfl rfl ?_
    obtain ⟨q20, h⟩ := gd_some h
    refine s_iast dX4_addPiece_39 (r_4_3 (w := 0) h_a0).2 q20 ?_
    obtain ⟨σ21, q22, h⟩ := lt_some h
    refine s_nms q22 ?_
    refine e_aload_n 0 dX4_addPiece_40 rfl rfl ?_
    refine e_dup dX4_addPiece_41 rfl ?_
    refine s_geti dX4_addPiece_42 fl_RX4_41 h_a0 ?_
    refine e_iconst (v := (1 : Int32)) dX4_addPiece_45 (by decide) ?_
    refine e_iadd dX4_addPiece_46 ?_
    refine s_puti dX4_addPiece_47 fl_RX4_41 h_a0 rfl rfl rfl ?_
    obtain ⟨σ23, q24, h⟩ := lt_some h
    refine s_nms q24 ?_
    obtain rfl := Option.some.inj h
    exact s_ret rfl rfl dX4_addPiece_50
abbrev yy_X4_isDigit : mm_Y := (yX4_isDigit, cX4_isDigit, 2, (some .boolean))
theorem dX4_isDigit_0 : decode cX4_isDigit 0 = .ok (.aload_n 0, 1) := by decide +kernel
theorem dX4_isDigit_1 : decode cX4_isDigit 1 = .ok (.getfield 21, 3) := by decide +kernel
theorem dX4_isDigit_4 : decode cX4_isDigit 4 = .ok (.getfield 83, 3) := by decide +kernel
theorem dX4_isDigit_7 : decode cX4_isDigit 7 = .ok (.iload_n 1, 1) := by decide +kernel
theorem dX4_isDigit_8 : decode cX4_isDigit 8 = .ok (.baload, 1) := by decide +kernel
theorem dX4_isDigit_9 : decode cX4_isDigit 9 = .ok (.bipush 48, 2) := by decide +kernel
theorem dX4_isDigit_11 : decode cX4_isDigit 11 = .ok (.if_icmp .lt 21, 3) := by decide +kernel
theorem dX4_isDigit_14 : decode cX4_isDigit 14 = .ok (.aload_n 0, 1) := by decide +kernel
theorem dX4_isDigit_15 : decode cX4_isDigit 15 = .ok (.getfield 21, 3) := by decide +kernel
theorem dX4_isDigit_18 : decode cX4_isDigit 18 = .ok (.getfield 83, 3) := by decide +kernel
theorem dX4_isDigit_21 : decode cX4_isDigit 21 = .ok (.iload_n 1, 1) := by decide +kernel
theorem dX4_isDigit_22 : decode cX4_isDigit 22 = .ok (.baload, 1) := by decide +kernel
theorem dX4_isDigit_23 : decode cX4_isDigit 23 = .ok (.bipush 57, 2) := by decide +kernel
theorem dX4_isDigit_25 : decode cX4_isDigit 25 = .ok (.if_icmp .gt 7, 3) := by decide +kernel
theorem dX4_isDigit_28 : decode cX4_isDigit 28 = .ok (.iconst 1, 1) := by decide +kernel
theorem dX4_isDigit_29 : decode cX4_isDigit 29 = .ok (.goto 4, 3) := by decide +kernel
theorem dX4_isDigit_32 : decode cX4_isDigit 32 = .ok (.iconst 0, 1) := by decide +kernel
theorem dX4_isDigit_33 : decode cX4_isDigit 33 = .ok (.ireturn, 1) := by decide +kernel
def f_X4_isDigit (a0 : Nat) (i1 : Int32) (σ : mm_S) : Option (Int32 × mm_S) :=
    gd i1 400 <|
    if (σ.1 2 i1.toNatClampNeg) < (48 : Int32) then
      some ((0 : Int32), σ)
    else
      gd i1 400 <|
      if (57 : Int32) < (σ.1 2 i1.toNatClampNeg) then
        some ((0 : Int32), σ)
      else
        some ((1 : Int32), σ)
theorem v_X4_isDigit {g : mm_G} (d : Nat) {a0 : Nat} {i1 : Int32} {σ : mm_S} {res : Int32 × mm_S} (h_a0 : (mm_K a0).1 = 4) (h : f_X4_isDigit a0 i1 σ = some res) : SM g (d + 0) yy_X4_isDigit [.ref a0, .int i1] σ (.int res.1) res.2 := by
  refine s_of (by decide) (Nat.le_of_ble_eq_true rfl) (L := [(0, .ref a0), (1, .int i1)]) rfl ?_
  unfold f_X4_isDigit at h
  refine e_aload_n 0 dX4_isDigit_0 rfl rfl ?_
  refine s_getr dX4_isDigit_1 fl_RX4_21 h_a0 (r_4_0 h_a0).1 ?_
  refine s_getr dX4_isDigit_4 fl_RX4_83 (ka_1 (r_4_0 (w := 0) h_a0).2) (r_6_0 (ka_1 (r_4_0 (w := 0) h_a0).2)).1 ?_
  refine e_iload_n 1 dX4_isDigit_7 rfl rfl ?_
  obtain ⟨q5, h⟩ := gd_some h
  refine s_bald dX4_isDigit_8 (r_6_0 (w := 0) (ka_1 (r_4_0 (w := 0) h_a0).2)).2 q5 ?_
  refine e_bipush (v := (48 : Int32)) dX4_isDigit_9 (by decide) ?_
  refine e_icmp_lt 32 dX4_isDigit_11 (by decide) (fun c6 => ?_) (fun c6 => ?_)
  · rw [if_pos c6] at h
    refine e_iconst (v := (0 : Int32)) dX4_isDigit_32 (by decide) ?_
    obtain rfl := Option.some.inj h
    exact s_ret rfl ⟨_, rfl, nb1 (Or.inl rfl)⟩ dX4_isDigit_33
  · rw [if_neg c6] at h
    refine e_aload_n 0 dX4_isDigit_14 rfl rfl ?_
    refine s_getr dX4_isDigit_15 fl_RX4_21 h_a0 (r_4_0 h_a0).1 ?_
    refine s_getr dX4_isDigit_18 fl_RX4_83 (ka_1 (r_4_0 (w := 0) h_a0).2) (r_6_0 (ka_1 (r_4_0 (w := 0) h_a0).2)).1 ?_
    refine e_iload_n 1 dX4_isDigit_21 rfl rfl ?_
    obtain ⟨q7, h⟩ := gd_some h
    refine s_bald dX4_isDigit_22 (r_6_0 (w := 0) (ka_1 (r_4_0 (w := 0) h_a0).2)).2 q7 ?_
    refine e_bipush (v := (57 : Int32)) dX4_isDigit_23 (by decide) ?_
    refine e_icmp_gt 32 dX4_isDigit_25 (by decide) (fun c8 => ?_) (fun c8 => ?_)
    · rw [if_pos c8] at h
      refine e_iconst (v := (0 : Int32)) dX4_isDigit_32 (by decide) ?_
      obtain rfl := Option.some.inj h
      exact s_ret rfl ⟨_, rfl, nb1 (Or.inl rfl)⟩ dX4_isDigit_33
    · rw [if_neg c8] at h
      refine e_iconst (v := (1 : Int32)) dX4_isDigit_28 (by decide) ?_
      refine e_goto 33 dX4_isDigit_29 (by decide) ?_
      obtain rfl := Option.some.inj h
      exact s_ret rfl ⟨_, rfl, nb1 (Or.inr rfl)⟩ dX4_isDigit_33
abbrev yy_X4_numberEnd : mm_Y := (yX4_numberEnd, cX4_numberEnd, 3, (some .int))
theorem dX4_numberEnd_0 : decode cX4_numberEnd 0 = .ok (.iload_n 1, 1) := by decide +kernel
theorem dX4_numberEnd_1 : decode cX4_numberEnd 1 = .ok (.iconst 1, 1) := by decide +kernel
theorem dX4_numberEnd_2 : decode cX4_numberEnd 2 = .ok (.iadd, 1) := by decide +kernel
theorem dX4_numberEnd_3 : decode cX4_numberEnd 3 = .ok (.istore_n 2, 1) := by decide +kernel
theorem dX4_numberEnd_4 : decode cX4_numberEnd 4 = .ok (.iload_n 2, 1) := by decide +kernel
theorem dX4_numberEnd_5 : decode cX4_numberEnd 5 = .ok (.aload_n 0, 1) := by decide +kernel
theorem dX4_numberEnd_6 : decode cX4_numberEnd 6 = .ok (.getfield 21, 3) := by decide +kernel
theorem dX4_numberEnd_9 : decode cX4_numberEnd 9 = .ok (.getfield 53, 3) := by decide +kernel
theorem dX4_numberEnd_12 : decode cX4_numberEnd 12 = .ok (.if_icmp .ge 17, 3) := by decide +kernel
theorem dX4_numberEnd_15 : decode cX4_numberEnd 15 = .ok (.aload_n 0, 1) := by decide +kernel
theorem dX4_numberEnd_16 : decode cX4_numberEnd 16 = .ok (.iload_n 2, 1) := by decide +kernel
theorem dX4_numberEnd_17 : decode cX4_numberEnd 17 = .ok (.invokevirtual 74, 3) := by decide +kernel
theorem dX4_numberEnd_20 : decode cX4_numberEnd 20 = .ok (.ifCond .eq 9, 3) := by decide +kernel
theorem dX4_numberEnd_23 : decode cX4_numberEnd 23 = .ok (.iinc 2 1, 3) := by decide +kernel
theorem dX4_numberEnd_26 : decode cX4_numberEnd 26 = .ok (.goto (-22), 3) := by decide +kernel
theorem dX4_numberEnd_29 : decode cX4_numberEnd 29 = .ok (.iload_n 2, 1) := by decide +kernel
theorem dX4_numberEnd_30 : decode cX4_numberEnd 30 = .ok (.ireturn, 1) := by decide +kernel
def f_X4_numberEnd_4 (a0 : Nat) (i2 : Int32) (σ : mm_S) : Option (Int32 × mm_S) :=
  lp lpN (fun (k4 : (Int32) → mm_S → Option (Int32 × mm_S)) (v : Int32) (σ : mm_S) =>
    if (σ.1 1 1) ≤ v then
      some (v, σ)
    else
      bd (f_X4_isDigit a0 v σ) fun r4 σ3 =>
      if r4 = 0 then
        some (v, σ3)
      else
        lt (v + Int32.ofInt (1)) fun x6 =>
        k4 x6 σ3) i2 σ
theorem v_X4_numberEnd_4 {g : mm_G} (d : Nat) {a0 : Nat} {i2 : Int32} {σ : mm_S} {res : Int32 × mm_S}  (h_a0 : (mm_K a0).1 = 4) (h : f_X4_numberEnd_4 a0 i2 σ = some res) : SV g (d + 1) yy_X4_numberEnd 4 [(0, .ref a0), (2, .int i2)] [] σ (.int res.1) res.2 := by
  unfold f_X4_numberEnd_4 at h
  refine lp_ind (P := fun v σ => SV g (d + 1) yy_X4_numberEnd 4 [(0, .ref a0), (2, .int v)] [] σ (.int res.1) res.2) (fun k4 H4 v σ h => ?_) _ i2 σ h
  refine e_iload_n 1 dX4_numberEnd_4 rfl rfl ?_
  refine e_aload_n 0 dX4_numberEnd_5 rfl rfl ?_
  refine s_getr dX4_numberEnd_6 fl_RX4_21 h_a0 (r_4_0 h_a0).1 ?_
  refine s_geti dX4_numberEnd_9 fl_RX4_53 (ka_1 (r_4_0 (w := 0) h_a0).2) ?_
  refine e_icmp_ge 29 dX4_numberEnd_12 (by decide) (fun c1 => ?_) (fun c1 => ?_)
  · rw [if_pos c1] at h
    refine e_iload_n 1 dX4_numberEnd_29 rfl rfl ?_
    obtain rfl := Option.some.inj h
    exact s_ret rfl ⟨_, rfl, rfl⟩ dX4_numberEnd_30
  · rw [if_neg c1] at h
    refine e_aload_n 0 dX4_numberEnd_15 rfl rfl ?_
    refine e_iload_n 1 dX4_numberEnd_16 rfl rfl ?_
    obtain ⟨r4, σ3, q2, h⟩ := bd_some h
    refine s_callVi [.int v] dX4_numberEnd_17 ml_RX4_74 h_a0 ⟨_, rfl, by decide⟩ rfl (v_X4_isDigit (d + 0) h_a0 q2) (Nat.le_of_ble_eq_true rfl) ?_
    refine e_if_eq 29 dX4_numberEnd_20 (by decide) (fun c5 => ?_) (fun c5 => ?_)
    · rw [if_pos c5] at h
      refine e_iload_n 1 dX4_numberEnd_29 rfl rfl ?_
      obtain rfl := Option.some.inj h
      exact s_ret rfl ⟨_, rfl, rfl⟩ dX4_numberEnd_30
    · rw [if_neg c5] at h
      obtain ⟨x6, q7, h⟩ := lt_some h
      refine e_iinc (v := x6) (L' := [(0, .ref a0), (2, .int x6)]) 1 dX4_numberEnd_23 rfl q7.symm (by decide) rfl ?_
      refine e_goto 4 dX4_numberEnd_26 (by decide) ?_
      refine s_pick (L' := [(0, .ref a0), (2, .int x6)]) [0, 1] rfl ?_
      exact H4 x6 σ3 h
def f_X4_numberEnd (a0 : Nat) (i1 : Int32) (σ : mm_S) : Option (Int32 × mm_S) :=
    lt ((i1 + (1 : Int32))) fun x10 =>
    f_X4_numberEnd_4 a0 x10 σ
theorem v_X4_numberEnd {g : mm_G} (d : Nat) {a0 : Nat} {i1 : Int32} {σ : mm_S} {res : Int32 × mm_S} (h_a0 : (mm_K a0).1 = 4) (h : f_X4_numberEnd a0 i1 σ = some res) : SM g (d + 1) yy_X4_numberEnd [.ref a0, .int i1] σ (.int res.1) res.2 := by
  refine s_of (by decide) (Nat.le_of_ble_eq_true rfl) (L := [(0, .ref a0), (1, .int i1)]) rfl ?_
  unfold f_X4_numberEnd at h
  refine e_iload_n 1 dX4_numberEnd_0 rfl rfl ?_
  refine e_iconst (v := (1 : Int32)) dX4_numberEnd_1 (by decide) ?_
  refine e_iadd dX4_numberEnd_2 ?_
  obtain ⟨x10, q11, h⟩ := lt_some h
  refine s_nmi q11 ?_
  refine e_istore_n (L' := [(0, .ref a0), (1, .int i1), (2, .int x10)]) dX4_numberEnd_3 rfl (by decide) rfl ?_
  refine s_pick (L' := [(0, .ref a0), (2, .int x10)]) [0, 2] rfl ?_
  exact v_X4_numberEnd_4 d h_a0 h
abbrev yy_X4_numberOf : mm_Y := (yX4_numberOf, cX4_numberOf, 5, (some .int))
theorem dX4_numberOf_0 : decode cX4_numberOf 0 = .ok (.iload_n 2, 1) := by decide +kernel
theorem dX4_numberOf_1 : decode cX4_numberOf 1 = .ok (.iload_n 1, 1) := by decide +kernel
theorem dX4_numberOf_2 : decode cX4_numberOf 2 = .ok (.isub, 1) := by decide +kernel
theorem dX4_numberOf_3 : decode cX4_numberOf 3 = .ok (.iconst 5, 1) := by decide +kernel
theorem dX4_numberOf_4 : decode cX4_numberOf 4 = .ok (.if_icmp .le 5, 3) := by decide +kernel
theorem dX4_numberOf_7 : decode cX4_numberOf 7 = .ok (.iconst (-1), 1) := by decide +kernel
theorem dX4_numberOf_8 : decode cX4_numberOf 8 = .ok (.ireturn, 1) := by decide +kernel
theorem dX4_numberOf_9 : decode cX4_numberOf 9 = .ok (.iconst 0, 1) := by decide +kernel
theorem dX4_numberOf_10 : decode cX4_numberOf 10 = .ok (.istore_n 3, 1) := by decide +kernel
theorem dX4_numberOf_11 : decode cX4_numberOf 11 = .ok (.iload_n 1, 1) := by decide +kernel
theorem dX4_numberOf_12 : decode cX4_numberOf 12 = .ok (.istore 4, 2) := by decide +kernel
theorem dX4_numberOf_14 : decode cX4_numberOf 14 = .ok (.iload 4, 2) := by decide +kernel
theorem dX4_numberOf_16 : decode cX4_numberOf 16 = .ok (.iload_n 2, 1) := by decide +kernel
theorem dX4_numberOf_17 : decode cX4_numberOf 17 = .ok (.if_icmp .ge 28, 3) := by decide +kernel
theorem dX4_numberOf_20 : decode cX4_numberOf 20 = .ok (.iload_n 3, 1) := by decide +kernel
theorem dX4_numberOf_21 : decode cX4_numberOf 21 = .ok (.bipush 10, 2) := by decide +kernel
theorem dX4_numberOf_23 : decode cX4_numberOf 23 = .ok (.imul, 1) := by decide +kernel
theorem dX4_numberOf_24 : decode cX4_numberOf 24 = .ok (.aload_n 0, 1) := by decide +kernel
theorem dX4_numberOf_25 : decode cX4_numberOf 25 = .ok (.getfield 21, 3) := by decide +kernel
theorem dX4_numberOf_28 : decode cX4_numberOf 28 = .ok (.getfield 83, 3) := by decide +kernel
theorem dX4_numberOf_31 : decode cX4_numberOf 31 = .ok (.iload 4, 2) := by decide +kernel
theorem dX4_numberOf_33 : decode cX4_numberOf 33 = .ok (.baload, 1) := by decide +kernel
theorem dX4_numberOf_34 : decode cX4_numberOf 34 = .ok (.iadd, 1) := by decide +kernel
theorem dX4_numberOf_35 : decode cX4_numberOf 35 = .ok (.bipush 48, 2) := by decide +kernel
theorem dX4_numberOf_37 : decode cX4_numberOf 37 = .ok (.isub, 1) := by decide +kernel
theorem dX4_numberOf_38 : decode cX4_numberOf 38 = .ok (.istore_n 3, 1) := by decide +kernel
theorem dX4_numberOf_39 : decode cX4_numberOf 39 = .ok (.iinc 4 1, 3) := by decide +kernel
theorem dX4_numberOf_42 : decode cX4_numberOf 42 = .ok (.goto (-28), 3) := by decide +kernel
theorem dX4_numberOf_45 : decode cX4_numberOf 45 = .ok (.iload_n 3, 1) := by decide +kernel
theorem dX4_numberOf_46 : decode cX4_numberOf 46 = .ok (.ireturn, 1) := by decide +kernel
def f_X4_numberOf_14 (a0 : Nat) (i2 : Int32) (i3 : Int32) (i4 : Int32) (σ : mm_S) : Option (Int32 × mm_S) :=
  lp lpN (fun (k14 : (Int32 × Int32) → mm_S → Option (Int32 × mm_S)) (v : Int32 × Int32) (σ : mm_S) =>
    if i2 ≤ v.2 then
      some (v.1, σ)
    else
      gd v.2 400 <|
      lt ((((v.1 * (10 : Int32)) + (σ.1 2 v.2.toNatClampNeg)) - (48 : Int32))) fun x3 =>
      lt (v.2 + Int32.ofInt (1)) fun x5 =>
      k14 (x3, x5) σ) (i3, i4) σ
theorem v_X4_numberOf_14 {g : mm_G} (d : Nat) {a0 : Nat} {i2 : Int32} {i3 : Int32} {i4 : Int32} {σ : mm_S} {res : Int32 × mm_S}  (h_a0 : (mm_K a0).1 = 4) (h : f_X4_numberOf_14 a0 i2 i3 i4 σ = some res) : SV g (d + 0) yy_X4_numberOf 14 [(0, .ref a0), (2, .int i2), (3, .int i3), (4, .int i4)] [] σ (.int res.1) res.2 := by
  unfold f_X4_numberOf_14 at h
  refine lp_ind (P := fun v σ => SV g (d + 0) yy_X4_numberOf 14 [(0, .ref a0), (2, .int i2), (3, .int v.1), (4, .int v.2)] [] σ (.int res.1) res.2) (fun k14 H14 v σ h => ?_) _ (i3, i4) σ h
  refine e_iload 3 dX4_numberOf_14  rfl ?_
  refine e_iload_n 1 dX4_numberOf_16 rfl rfl ?_
  refine e_icmp_ge 45 dX4_numberOf_17 (by decide) (fun c1 => ?_) (fun c1 => ?_)
  · rw [if_pos c1] at h
    refine e_iload_n 2 dX4_numberOf_45 rfl rfl ?_
    obtain rfl := Option.some.inj h
    exact s_ret rfl ⟨_, rfl, rfl⟩ dX4_numberOf_46
  · rw [if_neg c1] at h
    refine e_iload_n 2 dX4_numberOf_20 rfl rfl ?_
    refine e_bipush (v := (10 : Int32)) dX4_numberOf_21 (by decide) ?_
    refine e_imul dX4_numberOf_23 ?_
    refine e_aload_n 0 dX4_numberOf_24 rfl rfl ?_
    refine s_getr dX4_numberOf_25 fl_RX4_21 h_a0 (r_4_0 h_a0).1 ?_
    refine s_getr dX4_numberOf_28 fl_RX4_83 (ka_1 (r_4_0 (w := 0) h_a0).2) (r_6_0 (ka_1 (r_4_0 (w := 0) h_a0).2)).1 ?_
    refine e_iload 3 dX4_numberOf_31  rfl ?_
    obtain ⟨q2, h⟩ := gd_some h
    refine s_bald dX4_numberOf_33 (r_6_0 (w := 0) (ka_1 (r_4_0 (w := 0) h_a0).2)).2 q2 ?_
    refine e_iadd dX4_numberOf_34 ?_
    refine e_bipush (v := (48 : Int32)) dX4_numberOf_35 (by decide) ?_
    refine e_isub dX4_numberOf_37 ?_
    obtain ⟨x3, q4, h⟩ := lt_some h
    refine s_nmi q4 ?_
    refine e_istore_n (L' := [(0, .ref a0), (2, .int i2), (3, .int x3), (4, .int v.2)]) dX4_numberOf_38 rfl (by decide) rfl ?_
    obtain ⟨x5, q6, h⟩ := lt_some h
    refine e_iinc (v := x5) (L' := [(0, .ref a0), (2, .int i2), (3, .int x3), (4, .int x5)]) 3 dX4_numberOf_39 rfl q6.symm (by decide) rfl ?_
    refine e_goto 14 dX4_numberOf_42 (by decide) ?_
    refine s_pick (L' := [(0, .ref a0), (2, .int i2), (3, .int x3), (4, .int x5)]) [0, 1, 2, 3] rfl ?_
    exact H14 (x3, x5) σ h
def f_X4_numberOf (a0 : Nat) (i1 : Int32) (i2 : Int32) (σ : mm_S) : Option (Int32 × mm_S) :=
    if (i2 - i1) ≤ (5 : Int32) then
      f_X4_numberOf_14 a0 i2 (0 : Int32) i1 σ
    else
      some ((-1 : Int32), σ)
theorem v_X4_numberOf {g : mm_G} (d : Nat) {a0 : Nat} {i1 : Int32} {i2 : Int32} {σ : mm_S} {res : Int32 × mm_S} (h_a0 : (mm_K a0).1 = 4) (h : f_X4_numberOf a0 i1 i2 σ = some res) : SM g (d + 0) yy_X4_numberOf [.ref a0, .int i1, .int i2] σ (.int res.1) res.2 := by
  refine s_of (by decide) (Nat.le_of_ble_eq_true rfl) (L := [(0, .ref a0), (1, .int i1), (2, .int i2)]) rfl ?_
  unfold f_X4_numberOf at h
  refine e_iload_n 2 dX4_numberOf_0 rfl rfl ?_
  refine e_iload_n 1 dX4_numberOf_1 rfl rfl ?_
  refine e_isub dX4_numberOf_2 ?_
  refine e_iconst (v := (5 : Int32)) dX4_numberOf_3 (by decide) ?_
  refine e_icmp_le 9 dX4_numberOf_4 (by decide) (fun c8 => ?_) (fun c8 => ?_)
  · rw [if_pos c8] at h
    refine e_iconst (v := (0 : Int32)) dX4_numberOf_9 (by decide) ?_
    refine e_istore_n (L' := [(0, .ref a0), (1, .int i1), (2, .int i2), (3, .int (0 : Int32))]) dX4_numberOf_10 rfl (by decide) rfl ?_
    refine e_iload_n 1 dX4_numberOf_11 rfl rfl ?_
    refine e_istore (L' := [(0, .ref a0), (1, .int i1), (2, .int i2), (3, .int (0 : Int32)), (4, .int i1)]) dX4_numberOf_12  (by decide) rfl ?_
    refine s_pick (L' := [(0, .ref a0), (2, .int i2), (3, .int (0 : Int32)), (4, .int i1)]) [0, 2, 3, 4] rfl ?_
    exact v_X4_numberOf_14 d h_a0 h
  · rw [if_neg c8] at h
    refine e_iconst (v := (-1 : Int32)) dX4_numberOf_7 (by decide) ?_
    obtain rfl := Option.some.inj h
    exact s_ret rfl ⟨_, rfl, rfl⟩ dX4_numberOf_8
abbrev yy_X4_signEnd : mm_Y := (yX4_signEnd, cX4_signEnd, 3, (some .int))
theorem dX4_signEnd_0 : decode cX4_signEnd 0 = .ok (.aload_n 0, 1) := by decide +kernel
theorem dX4_signEnd_1 : decode cX4_signEnd 1 = .ok (.getfield 21, 3) := by decide +kernel
theorem dX4_signEnd_4 : decode cX4_signEnd 4 = .ok (.getfield 83, 3) := by decide +kernel
theorem dX4_signEnd_7 : decode cX4_signEnd 7 = .ok (.iload_n 1, 1) := by decide +kernel
theorem dX4_signEnd_8 : decode cX4_signEnd 8 = .ok (.baload, 1) := by decide +kernel
theorem dX4_signEnd_9 : decode cX4_signEnd 9 = .ok (.bipush 60, 2) := by decide +kernel
theorem dX4_signEnd_11 : decode cX4_signEnd 11 = .ok (.if_icmp .eq 17, 3) := by decide +kernel
theorem dX4_signEnd_14 : decode cX4_signEnd 14 = .ok (.aload_n 0, 1) := by decide +kernel
theorem dX4_signEnd_15 : decode cX4_signEnd 15 = .ok (.getfield 21, 3) := by decide +kernel
theorem dX4_signEnd_18 : decode cX4_signEnd 18 = .ok (.getfield 83, 3) := by decide +kernel
theorem dX4_signEnd_21 : decode cX4_signEnd 21 = .ok (.iload_n 1, 1) := by decide +kernel
theorem dX4_signEnd_22 : decode cX4_signEnd 22 = .ok (.baload, 1) := by decide +kernel
theorem dX4_signEnd_23 : decode cX4_signEnd 23 = .ok (.bipush 62, 2) := by decide +kernel
theorem dX4_signEnd_25 : decode cX4_signEnd 25 = .ok (.if_icmp .ne 7, 3) := by decide +kernel
theorem dX4_signEnd_28 : decode cX4_signEnd 28 = .ok (.iconst 1, 1) := by decide +kernel
theorem dX4_signEnd_29 : decode cX4_signEnd 29 = .ok (.goto 4, 3) := by decide +kernel
theorem dX4_signEnd_32 : decode cX4_signEnd 32 = .ok (.iconst 0, 1) := by decide +kernel
theorem dX4_signEnd_33 : decode cX4_signEnd 33 = .ok (.istore_n 2, 1) := by decide +kernel
theorem dX4_signEnd_34 : decode cX4_signEnd 34 = .ok (.iload_n 2, 1) := by decide +kernel
theorem dX4_signEnd_35 : decode cX4_signEnd 35 = .ok (.ifCond .eq 38, 3) := by decide +kernel
theorem dX4_signEnd_38 : decode cX4_signEnd 38 = .ok (.iload_n 1, 1) := by decide +kernel
theorem dX4_signEnd_39 : decode cX4_signEnd 39 = .ok (.iconst 1, 1) := by decide +kernel
theorem dX4_signEnd_40 : decode cX4_signEnd 40 = .ok (.iadd, 1) := by decide +kernel
theorem dX4_signEnd_41 : decode cX4_signEnd 41 = .ok (.aload_n 0, 1) := by decide +kernel
theorem dX4_signEnd_42 : decode cX4_signEnd 42 = .ok (.getfield 21, 3) := by decide +kernel
theorem dX4_signEnd_45 : decode cX4_signEnd 45 = .ok (.getfield 53, 3) := by decide +kernel
theorem dX4_signEnd_48 : decode cX4_signEnd 48 = .ok (.if_icmp .ge 25, 3) := by decide +kernel
theorem dX4_signEnd_51 : decode cX4_signEnd 51 = .ok (.aload_n 0, 1) := by decide +kernel
theorem dX4_signEnd_52 : decode cX4_signEnd 52 = .ok (.getfield 21, 3) := by decide +kernel
theorem dX4_signEnd_55 : decode cX4_signEnd 55 = .ok (.getfield 83, 3) := by decide +kernel
theorem dX4_signEnd_58 : decode cX4_signEnd 58 = .ok (.iload_n 1, 1) := by decide +kernel
theorem dX4_signEnd_59 : decode cX4_signEnd 59 = .ok (.iconst 1, 1) := by decide +kernel
theorem dX4_signEnd_60 : decode cX4_signEnd 60 = .ok (.iadd, 1) := by decide +kernel
theorem dX4_signEnd_61 : decode cX4_signEnd 61 = .ok (.baload, 1) := by decide +kernel
theorem dX4_signEnd_62 : decode cX4_signEnd 62 = .ok (.bipush 61, 2) := by decide +kernel
theorem dX4_signEnd_64 : decode cX4_signEnd 64 = .ok (.if_icmp .ne 9, 3) := by decide +kernel
theorem dX4_signEnd_67 : decode cX4_signEnd 67 = .ok (.iload_n 1, 1) := by decide +kernel
theorem dX4_signEnd_68 : decode cX4_signEnd 68 = .ok (.iconst 2, 1) := by decide +kernel
theorem dX4_signEnd_69 : decode cX4_signEnd 69 = .ok (.iadd, 1) := by decide +kernel
theorem dX4_signEnd_70 : decode cX4_signEnd 70 = .ok (.goto 6, 3) := by decide +kernel
theorem dX4_signEnd_73 : decode cX4_signEnd 73 = .ok (.iload_n 1, 1) := by decide +kernel
theorem dX4_signEnd_74 : decode cX4_signEnd 74 = .ok (.iconst 1, 1) := by decide +kernel
theorem dX4_signEnd_75 : decode cX4_signEnd 75 = .ok (.iadd, 1) := by decide +kernel
theorem dX4_signEnd_76 : decode cX4_signEnd 76 = .ok (.ireturn, 1) := by decide +kernel
def f_X4_signEnd_33 (a0 : Nat) (i1 : Int32) (s0 : Int32) (σ : mm_S) : Option (Int32 × mm_S) :=
    if s0 = 0 then
      some ((i1 + (1 : Int32)), σ)
    else
      if (σ.1 1 1) ≤ (i1 + (1 : Int32)) then
        some ((i1 + (1 : Int32)), σ)
      else
        gd (i1 + (1 : Int32)) 400 <|
        if (σ.1 2 (i1 + (1 : Int32)).toNatClampNeg) = (61 : Int32) then
          some ((i1 + (2 : Int32)), σ)
        else
          some ((i1 + (1 : Int32)), σ)
theorem v_X4_signEnd_33 {g : mm_G} (d : Nat) {a0 : Nat} {i1 : Int32} {s0 : Int32} {σ : mm_S} {res : Int32 × mm_S}  (h_a0 : (mm_K a0).1 = 4) (h : f_X4_signEnd_33 a0 i1 s0 σ = some res) : SV g (d + 0) yy_X4_signEnd 33 [(0, .ref a0), (1, .int i1)] [.int s0] σ (.int res.1) res.2 := by
  unfold f_X4_signEnd_33 at h
  refine e_istore_n (L' := [(0, .ref a0), (1, .int i1), (2, .int s0)]) dX4_signEnd_33 rfl (by decide) rfl ?_
  refine e_iload_n 2 dX4_signEnd_34 rfl rfl ?_
  refine e_if_eq 73 dX4_signEnd_35 (by decide) (fun c1 => ?_) (fun c1 => ?_)
  · rw [if_pos c1] at h
    refine e_iload_n 1 dX4_signEnd_73 rfl rfl ?_
    refine e_iconst (v := (1 : Int32)) dX4_signEnd_74 (by decide) ?_
    refine e_iadd dX4_signEnd_75 ?_
    obtain rfl := Option.some.inj h
    exact s_ret rfl ⟨_, rfl, rfl⟩ dX4_signEnd_76
  · rw [if_neg c1] at h
    refine e_iload_n 1 dX4_signEnd_38 rfl rfl ?_
    refine e_iconst (v := (1 : Int32)) dX4_signEnd_39 (by decide) ?_
    refine e_iadd dX4_signEnd_40 ?_
    refine e_aload_n 0 dX4_signEnd_41 rfl rfl ?_
    refine s_getr dX4_signEnd_42 fl_RX4_21 h_a0 (r_4_0 h_a0).1 ?_
    refine s_geti dX4_signEnd_45 fl_RX4_53 (ka_1 (r_4_0 (w := 0) h_a0).2) ?_
    refine e_icmp_ge 73 dX4_signEnd_48 (by decide) (fun c2 => ?_) (fun c2 => ?_)
    · rw [if_pos c2] at h
      refine e_iload_n 1 dX4_signEnd_73 rfl rfl ?_
      refine e_iconst (v := (1 : Int32)) dX4_signEnd_74 (by decide) ?_
      refine e_iadd dX4_signEnd_75 ?_
      obtain rfl := Option.some.inj h
      exact s_ret rfl ⟨_, rfl, rfl⟩ dX4_signEnd_76
    · rw [if_neg c2] at h
      refine e_aload_n 0 dX4_signEnd_51 rfl rfl ?_
      refine s_getr dX4_signEnd_52 fl_RX4_21 h_a0 (r_4_0 h_a0).1 ?_
      refine s_getr dX4_signEnd_55 fl_RX4_83 (ka_1 (r_4_0 (w := 0) h_a0).2) (r_6_0 (ka_1 (r_4_0 (w := 0) h_a0).2)).1 ?_
      refine e_iload_n 1 dX4_signEnd_58 rfl rfl ?_
      refine e_iconst (v := (1 : Int32)) dX4_signEnd_59 (by decide) ?_
      refine e_iadd dX4_signEnd_60 ?_
      obtain ⟨q3, h⟩ := gd_some h
      refine s_bald dX4_signEnd_61 (r_6_0 (w := 0) (ka_1 (r_4_0 (w := 0) h_a0).2)).2 q3 ?_
      refine e_bipush (v := (61 : Int32)) dX4_signEnd_62 (by decide) ?_
      refine e_icmp_ne 73 dX4_signEnd_64 (by decide) (fun c4 => ?_) (fun c4 => ?_)
      · rw [if_neg c4] at h
        refine e_iload_n 1 dX4_signEnd_73 rfl rfl ?_
        refine e_iconst (v := (1 : Int32)) dX4_signEnd_74 (by decide) ?_
        refine e_iadd dX4_signEnd_75 ?_
        obtain rfl := Option.some.inj h
        exact s_ret rfl ⟨_, rfl, rfl⟩ dX4_signEnd_76
      · rw [if_pos c4] at h
        refine e_iload_n 1 dX4_signEnd_67 rfl rfl ?_
        refine e_iconst (v := (2 : Int32)) dX4_signEnd_68 (by decide) ?_
        refine e_iadd dX4_signEnd_69 ?_
        refine e_goto 76 dX4_signEnd_70 (by decide) ?_
        obtain rfl := Option.some.inj h
        exact s_ret rfl ⟨_, rfl, rfl⟩ dX4_signEnd_76
def f_X4_signEnd (a0 : Nat) (i1 : Int32) (σ : mm_S) : Option (Int32 × mm_S) :=
    gd i1 400 <|
    if (σ.1 2 i1.toNatClampNeg) = (60 : Int32) then
      f_X4_signEnd_33 a0 i1 (1 : Int32) σ
    else
      gd i1 400 <|
      if (σ.1 2 i1.toNatClampNeg) = (62 : Int32) then
        f_X4_signEnd_33 a0 i1 (1 : Int32) σ
      else
        f_X4_signEnd_33 a0 i1 (0 : Int32) σ
theorem v_X4_signEnd {g : mm_G} (d : Nat) {a0 : Nat} {i1 : Int32} {σ : mm_S} {res : Int32 × mm_S} (h_a0 : (mm_K a0).1 = 4) (h : f_X4_signEnd a0 i1 σ = some res) : SM g (d + 0) yy_X4_signEnd [.ref a0, .int i1] σ (.int res.1) res.2 := by
  refine s_of (by decide) (Nat.le_of_ble_eq_true rfl) (L := [(0, .ref a0), (1, .int i1)]) rfl ?_
  unfold f_X4_signEnd at h
  refine e_aload_n 0 dX4_signEnd_0 rfl rfl ?_
  refine s_getr dX4_signEnd_1 fl_RX4_21 h_a0 (r_4_0 h_a0).1 ?_
  refine s_getr dX4_signEnd_4 fl_RX4_83 (ka_1 (r_4_0 (w := 0) h_a0).2) (r_6_0 (ka_1 (r_4_0 (w := 0) h_a0).2)).1 ?_
  refine e_iload_n 1 dX4_signEnd_7 rfl rfl ?_
  obtain ⟨q9, h⟩ := gd_some h
  refine s_bald dX4_signEnd_8 (r_6_0 (w := 0) (ka_1 (r_4_0 (w := 0) h_a0).2)).2 q9 ?_
  refine e_bipush (v := (60 : Int32)) dX4_signEnd_9 (by decide) ?_
  refine e_icmp_eq 28 dX4_signEnd_11 (by decide) (fun c10 => ?_) (fun c10 => ?_)
  · rw [if_pos c10] at h
    refine e_iconst (v := (1 : Int32)) dX4_signEnd_28 (by decide) ?_
    refine e_goto 33 dX4_signEnd_29 (by decide) ?_
    refine s_pick (L' := [(0, .ref a0), (1, .int i1)]) [0, 1] rfl ?_
    exact v_X4_signEnd_33 d h_a0 h
  · rw [if_neg c10] at h
    refine e_aload_n 0 dX4_signEnd_14 rfl rfl ?_
    refine s_getr dX4_signEnd_15 fl_RX4_21 h_a0 (r_4_0 h_a0).1 ?_
    refine s_getr dX4_signEnd_18 fl_RX4_83 (ka_1 (r_4_0 (w := 0) h_a0).2) (r_6_0 (ka_1 (r_4_0 (w := 0) h_a0).2)).1 ?_
    refine e_iload_n 1 dX4_signEnd_21 rfl rfl ?_
    obtain ⟨q11, h⟩ := gd_some h
    refine s_bald dX4_signEnd_22 (r_6_0 (w := 0) (ka_1 (r_4_0 (w := 0) h_a0).2)).2 q11 ?_
    refine e_bipush (v := (62 : Int32)) dX4_signEnd_23 (by decide) ?_
    refine e_icmp_ne 32 dX4_signEnd_25 (by decide) (fun c12 => ?_) (fun c12 => ?_)
    · rw [if_neg c12] at h
      refine e_iconst (v := (0 : Int32)) dX4_signEnd_32 (by decide) ?_
      refine s_pick (L' := [(0, .ref a0), (1, .int i1)]) [0, 1] rfl ?_
      exact v_X4_signEnd_33 d h_a0 h
    · rw [if_pos c12] at h
      refine e_iconst (v := (1 : Int32)) dX4_signEnd_28 (by decide) ?_
      refine e_goto 33 dX4_signEnd_29 (by decide) ?_
      refine s_pick (L' := [(0, .ref a0), (1, .int i1)]) [0, 1] rfl ?_
      exact v_X4_signEnd_33 d h_a0 h
abbrev yy_X4_signOf : mm_Y := (yX4_signOf, cX4_signOf, 2, (some .int))
theorem dX4_signOf_0 : decode cX4_signOf 0 = .ok (.iload_n 0, 1) := by decide +kernel
theorem dX4_signOf_1 : decode cX4_signOf 1 = .ok (.lookupswitch 152 #[(37, 111), (42, 105), (43, 99), (45, 102), (47, 108), (59, 149), (60, 114), (61, 127), (62, 130), (91, 143), (93, 146)], 99) := by decide +kernel
theorem dX4_signOf_100 : decode cX4_signOf 100 = .ok (.bipush 20, 2) := by decide +kernel
theorem dX4_signOf_102 : decode cX4_signOf 102 = .ok (.ireturn, 1) := by decide +kernel
theorem dX4_signOf_103 : decode cX4_signOf 103 = .ok (.bipush 21, 2) := by decide +kernel
theorem dX4_signOf_105 : decode cX4_signOf 105 = .ok (.ireturn, 1) := by decide +kernel
theorem dX4_signOf_106 : decode cX4_signOf 106 = .ok (.bipush 22, 2) := by decide +kernel
theorem dX4_signOf_108 : decode cX4_signOf 108 = .ok (.ireturn, 1) := by decide +kernel
theorem dX4_signOf_109 : decode cX4_signOf 109 = .ok (.bipush 23, 2) := by decide +kernel
theorem dX4_signOf_111 : decode cX4_signOf 111 = .ok (.ireturn, 1) := by decide +kernel
theorem dX4_signOf_112 : decode cX4_signOf 112 = .ok (.bipush 24, 2) := by decide +kernel
theorem dX4_signOf_114 : decode cX4_signOf 114 = .ok (.ireturn, 1) := by decide +kernel
theorem dX4_signOf_115 : decode cX4_signOf 115 = .ok (.iload_n 1, 1) := by decide +kernel
theorem dX4_signOf_116 : decode cX4_signOf 116 = .ok (.iconst 1, 1) := by decide +kernel
theorem dX4_signOf_117 : decode cX4_signOf 117 = .ok (.if_icmp .ne 8, 3) := by decide +kernel
theorem dX4_signOf_120 : decode cX4_signOf 120 = .ok (.bipush 25, 2) := by decide +kernel
theorem dX4_signOf_122 : decode cX4_signOf 122 = .ok (.goto 5, 3) := by decide +kernel
theorem dX4_signOf_125 : decode cX4_signOf 125 = .ok (.bipush 26, 2) := by decide +kernel
theorem dX4_signOf_127 : decode cX4_signOf 127 = .ok (.ireturn, 1) := by decide +kernel
theorem dX4_signOf_128 : decode cX4_signOf 128 = .ok (.bipush 27, 2) := by decide +kernel
theorem dX4_signOf_130 : decode cX4_signOf 130 = .ok (.ireturn, 1) := by decide +kernel
theorem dX4_signOf_131 : decode cX4_signOf 131 = .ok (.iload_n 1, 1) := by decide +kernel
theorem dX4_signOf_132 : decode cX4_signOf 132 = .ok (.iconst 1, 1) := by decide +kernel
theorem dX4_signOf_133 : decode cX4_signOf 133 = .ok (.if_icmp .ne 8, 3) := by decide +kernel
theorem dX4_signOf_136 : decode cX4_signOf 136 = .ok (.bipush 29, 2) := by decide +kernel
theorem dX4_signOf_138 : decode cX4_signOf 138 = .ok (.goto 5, 3) := by decide +kernel
theorem dX4_signOf_141 : decode cX4_signOf 141 = .ok (.bipush 28, 2) := by decide +kernel
theorem dX4_signOf_143 : decode cX4_signOf 143 = .ok (.ireturn, 1) := by decide +kernel
theorem dX4_signOf_144 : decode cX4_signOf 144 = .ok (.bipush 35, 2) := by decide +kernel
theorem dX4_signOf_146 : decode cX4_signOf 146 = .ok (.ireturn, 1) := by decide +kernel
theorem dX4_signOf_147 : decode cX4_signOf 147 = .ok (.bipush 36, 2) := by decide +kernel
theorem dX4_signOf_149 : decode cX4_signOf 149 = .ok (.ireturn, 1) := by decide +kernel
theorem dX4_signOf_150 : decode cX4_signOf 150 = .ok (.bipush 37, 2) := by decide +kernel
theorem dX4_signOf_152 : decode cX4_signOf 152 = .ok (.ireturn, 1) := by decide +kernel
theorem dX4_signOf_153 : decode cX4_signOf 153 = .ok (.bipush 38, 2) := by decide +kernel
theorem dX4_signOf_155 : decode cX4_signOf 155 = .ok (.ireturn, 1) := by decide +kernel
def f_X4_signOf (i0 : Int32) (i1 : Int32) (σ : mm_S) : Option (Int32 × mm_S) :=
    if i0 = 37 then
      some ((24 : Int32), σ)
    else
    if i0 = 42 then
      some ((22 : Int32), σ)
    else
    if i0 = 43 then
      some ((20 : Int32), σ)
    else
    if i0 = 45 then
      some ((21 : Int32), σ)
    else
    if i0 = 47 then
      some ((23 : Int32), σ)
    else
    if i0 = 59 then
      some ((37 : Int32), σ)
    else
    if i0 = 60 then
      if i1 = (1 : Int32) then
        some ((25 : Int32), σ)
      else
        some ((26 : Int32), σ)
    else
    if i0 = 61 then
      some ((27 : Int32), σ)
    else
    if i0 = 62 then
      if i1 = (1 : Int32) then
        some ((29 : Int32), σ)
      else
        some ((28 : Int32), σ)
    else
    if i0 = 91 then
      some ((35 : Int32), σ)
    else
    if i0 = 93 then
      some ((36 : Int32), σ)
    else
    some ((38 : Int32), σ)
theorem v_X4_signOf {g : mm_G} (d : Nat) {i0 : Int32} {i1 : Int32} {σ : mm_S} {res : Int32 × mm_S}  (h : f_X4_signOf i0 i1 σ = some res) : SM g (d + 0) yy_X4_signOf [.int i0, .int i1] σ (.int res.1) res.2 := by
  refine s_of (by decide) (Nat.le_of_ble_eq_true rfl) (L := [(0, .int i0), (1, .int i1)]) rfl ?_
  unfold f_X4_signOf at h
  refine e_iload_n 0 dX4_signOf_0 rfl rfl ?_
  by_cases c14 : i0 = 37
  · rw [if_pos c14] at h
    refine s_eqi c14 ?_
    refine e_look 112 dX4_signOf_1 (by decide) rfl (by decide) ?_
    refine e_bipush (v := (24 : Int32)) dX4_signOf_112 (by decide) ?_
    obtain rfl := Option.some.inj h
    exact s_ret rfl ⟨_, rfl, rfl⟩ dX4_signOf_114
  rw [if_neg c14] at h
  by_cases c15 : i0 = 42
  · rw [if_pos c15] at h
    refine s_eqi c15 ?_
    refine e_look 106 dX4_signOf_1 (by decide) rfl (by decide) ?_
    refine e_bipush (v := (22 : Int32)) dX4_signOf_106 (by decide) ?_
    obtain rfl := Option.some.inj h
    exact s_ret rfl ⟨_, rfl, rfl⟩ dX4_signOf_108
  rw [if_neg c15] at h
  by_cases c16 : i0 = 43
  · rw [if_pos c16] at h
    refine s_eqi c16 ?_
    refine e_look 100 dX4_signOf_1 (by decide) rfl (by decide) ?_
    refine e_bipush (v := (20 : Int32)) dX4_signOf_100 (by decide) ?_
    obtain rfl := Option.some.inj h
    exact s_ret rfl ⟨_, rfl, rfl⟩ dX4_signOf_102
  rw [if_neg c16] at h
  by_cases c17 : i0 = 45
  · rw [if_pos c17] at h
    refine s_eqi c17 ?_
    refine e_look 103 dX4_signOf_1 (by decide) rfl (by decide) ?_
    refine e_bipush (v := (21 : Int32)) dX4_signOf_103 (by decide) ?_
    obtain rfl := Option.some.inj h
    exact s_ret rfl ⟨_, rfl, rfl⟩ dX4_signOf_105
  rw [if_neg c17] at h
  by_cases c18 : i0 = 47
  · rw [if_pos c18] at h
    refine s_eqi c18 ?_
    refine e_look 109 dX4_signOf_1 (by decide) rfl (by decide) ?_
    refine e_bipush (v := (23 : Int32)) dX4_signOf_109 (by decide) ?_
    obtain rfl := Option.some.inj h
    exact s_ret rfl ⟨_, rfl, rfl⟩ dX4_signOf_111
  rw [if_neg c18] at h
  by_cases c19 : i0 = 59
  · rw [if_pos c19] at h
    refine s_eqi c19 ?_
    refine e_look 150 dX4_signOf_1 (by decide) rfl (by decide) ?_
    refine e_bipush (v := (37 : Int32)) dX4_signOf_150 (by decide) ?_
    obtain rfl := Option.some.inj h
    exact s_ret rfl ⟨_, rfl, rfl⟩ dX4_signOf_152
  rw [if_neg c19] at h
  by_cases c20 : i0 = 60
  · rw [if_pos c20] at h
    refine s_eqi c20 ?_
    refine e_look 115 dX4_signOf_1 (by decide) rfl (by decide) ?_
    refine e_iload_n 1 dX4_signOf_115 rfl rfl ?_
    refine e_iconst (v := (1 : Int32)) dX4_signOf_116 (by decide) ?_
    refine e_icmp_ne 125 dX4_signOf_117 (by decide) (fun c21 => ?_) (fun c21 => ?_)
    · rw [if_neg c21] at h
      refine e_bipush (v := (26 : Int32)) dX4_signOf_125 (by decide) ?_
      obtain rfl := Option.some.inj h
      exact s_ret rfl ⟨_, rfl, rfl⟩ dX4_signOf_127
    · rw [if_pos c21] at h
      refine e_bipush (v := (25 : Int32)) dX4_signOf_120 (by decide) ?_
      refine e_goto 127 dX4_signOf_122 (by decide) ?_
      obtain rfl := Option.some.inj h
      exact s_ret rfl ⟨_, rfl, rfl⟩ dX4_signOf_127
  rw [if_neg c20] at h
  by_cases c22 : i0 = 61
  · rw [if_pos c22] at h
    refine s_eqi c22 ?_
    refine e_look 128 dX4_signOf_1 (by decide) rfl (by decide) ?_
    refine e_bipush (v := (27 : Int32)) dX4_signOf_128 (by decide) ?_
    obtain rfl := Option.some.inj h
    exact s_ret rfl ⟨_, rfl, rfl⟩ dX4_signOf_130
  rw [if_neg c22] at h
  by_cases c23 : i0 = 62
  · rw [if_pos c23] at h
    refine s_eqi c23 ?_
    refine e_look 131 dX4_signOf_1 (by decide) rfl (by decide) ?_
    refine e_iload_n 1 dX4_signOf_131 rfl rfl ?_
    refine e_iconst (v := (1 : Int32)) dX4_signOf_132 (by decide) ?_
    refine e_icmp_ne 141 dX4_signOf_133 (by decide) (fun c24 => ?_) (fun c24 => ?_)
    · rw [if_neg c24] at h
      refine e_bipush (v := (28 : Int32)) dX4_signOf_141 (by decide) ?_
      obtain rfl := Option.some.inj h
      exact s_ret rfl ⟨_, rfl, rfl⟩ dX4_signOf_143
    · rw [if_pos c24] at h
      refine e_bipush (v := (29 : Int32)) dX4_signOf_136 (by decide) ?_
      refine e_goto 143 dX4_signOf_138 (by decide) ?_
      obtain rfl := Option.some.inj h
      exact s_ret rfl ⟨_, rfl, rfl⟩ dX4_signOf_143
  rw [if_neg c23] at h
  by_cases c25 : i0 = 91
  · rw [if_pos c25] at h
    refine s_eqi c25 ?_
    refine e_look 144 dX4_signOf_1 (by decide) rfl (by decide) ?_
    refine e_bipush (v := (35 : Int32)) dX4_signOf_144 (by decide) ?_
    obtain rfl := Option.some.inj h
    exact s_ret rfl ⟨_, rfl, rfl⟩ dX4_signOf_146
  rw [if_neg c25] at h
  by_cases c26 : i0 = 93
  · rw [if_pos c26] at h
    refine s_eqi c26 ?_
    refine e_look 147 dX4_signOf_1 (by decide) rfl (by decide) ?_
    refine e_bipush (v := (36 : Int32)) dX4_signOf_147 (by decide) ?_
    obtain rfl := Option.some.inj h
    exact s_ret rfl ⟨_, rfl, rfl⟩ dX4_signOf_149
  rw [if_neg c26] at h
  refine e_look (off := 152) 153 dX4_signOf_1 (by decide) ((lv_osw (a := 37) c14 rfl).trans ((lv_osw (a := 42) c15 rfl).trans ((lv_osw (a := 43) c16 rfl).trans ((lv_osw (a := 45) c17 rfl).trans ((lv_osw (a := 47) c18 rfl).trans ((lv_osw (a := 59) c19 rfl).trans ((lv_osw (a := 60) c20 rfl).trans ((lv_osw (a := 61) c22 rfl).trans ((lv_osw (a := 62) c23 rfl).trans ((lv_osw (a := 91) c25 rfl).trans ((lv_osw (a := 93) c26 rfl).trans (rfl)))))))))))) (by decide) ?_
  refine e_bipush (v := (38 : Int32)) dX4_signOf_153 (by decide) ?_
  obtain rfl := Option.some.inj h
  exact s_ret rfl ⟨_, rfl, rfl⟩ dX4_signOf_155
