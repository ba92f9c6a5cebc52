abbrev yy_X10_in : mm_Y := (yX10_in, cX10_in, 6, (some .boolean))
theorem dX10_in_0 : decode cX10_in 0 = .ok (.lload_n 0, 1) := by decide +kernel
theorem dX10_in_1 : decode cX10_in 1 = .ok (.lload_n 2, 1) := by decide +kernel
theorem dX10_in_2 : decode cX10_in 2 = .ok (.lcmp, 1) := by decide +kernel
theorem dX10_in_3 : decode cX10_in 3 = .ok (.ifCond .lt 14, 3) := by decide +kernel
theorem dX10_in_6 : decode cX10_in 6 = .ok (.lload_n 0, 1) := by decide +kernel
theorem dX10_in_7 : decode cX10_in 7 = .ok (.lload 4, 2) := by decide +kernel
theorem dX10_in_9 : decode cX10_in 9 = .ok (.lcmp, 1) := by decide +kernel
theorem dX10_in_10 : decode cX10_in 10 = .ok (.ifCond .gt 7, 3) := by decide +kernel
theorem dX10_in_13 : decode cX10_in 13 = .ok (.iconst 1, 1) := by decide +kernel
theorem dX10_in_14 : decode cX10_in 14 = .ok (.goto 4, 3) := by decide +kernel
theorem dX10_in_17 : decode cX10_in 17 = .ok (.iconst 0, 1) := by decide +kernel
theorem dX10_in_18 : decode cX10_in 18 = .ok (.ireturn, 1) := by decide +kernel
def f_X10_in (j0 : Int64) (j2 : Int64) (j4 : Int64) (σ : mm_S) : Option (Int32 × mm_S) :=
    if (lg_cmp j0 j2) < 0 then
      some ((0 : Int32), σ)
    else
      if 0 < (lg_cmp j0 j4) then
        some ((0 : Int32), σ)
      else
        some ((1 : Int32), σ)
theorem v_X10_in {g : mm_G} (d : Nat) {j0 : Int64} {j2 : Int64} {j4 : Int64} {σ : mm_S} {res : Int32 × mm_S}  (h : f_X10_in j0 j2 j4 σ = some res) : SM g (d + 0) yy_X10_in [.long j0, .long j2, .long j4] σ (.int res.1) res.2 := by
  refine s_of (by decide) (Nat.le_of_ble_eq_true rfl) (L := [(0, .long j0), (2, .long j2), (4, .long j4)]) rfl ?_
  unfold f_X10_in at h
  refine e_lload_n 0 dX10_in_0 rfl rfl ?_
  refine e_lload_n 1 dX10_in_1 rfl rfl ?_
  refine e_lcmp dX10_in_2 ?_
  refine e_if_lt 17 dX10_in_3 (by decide) (fun c3 => ?_) (fun c3 => ?_)
  · rw [if_pos c3] at h
    refine e_iconst (v := (0 : Int32)) dX10_in_17 (by decide) ?_
    obtain rfl := Option.some.inj h
    exact s_ret rfl ⟨_, rfl, nb1 (Or.inl rfl)⟩ dX10_in_18
  · rw [if_neg c3] at h
    refine e_lload_n 0 dX10_in_6 rfl rfl ?_
    refine e_lload 2 dX10_in_7  rfl ?_
    refine e_lcmp dX10_in_9 ?_
    refine e_if_gt 17 dX10_in_10 (by decide) (fun c4 => ?_) (fun c4 => ?_)
    · rw [if_pos c4] at h
      refine e_iconst (v := (0 : Int32)) dX10_in_17 (by decide) ?_
      obtain rfl := Option.some.inj h
      exact s_ret rfl ⟨_, rfl, nb1 (Or.inl rfl)⟩ dX10_in_18
    · rw [if_neg c4] at h
      refine e_iconst (v := (1 : Int32)) dX10_in_13 (by decide) ?_
      refine e_goto 18 dX10_in_14 (by decide) ?_
      obtain rfl := Option.some.inj h
      exact s_ret rfl ⟨_, rfl, nb1 (Or.inr rfl)⟩ dX10_in_18
abbrev yy_X10_isOf : mm_Y := (yX10_isOf, cX10_isOf, 2, (some .boolean))
theorem dX10_isOf_0 : decode cX10_isOf 0 = .ok (.iload_n 0, 1) := by decide +kernel
theorem dX10_isOf_1 : decode cX10_isOf 1 = .ok (.iload_n 1, 1) := by decide +kernel
theorem dX10_isOf_2 : decode cX10_isOf 2 = .ok (.ishr, 1) := by decide +kernel
theorem dX10_isOf_3 : decode cX10_isOf 3 = .ok (.iconst 1, 1) := by decide +kernel
theorem dX10_isOf_4 : decode cX10_isOf 4 = .ok (.iand, 1) := by decide +kernel
theorem dX10_isOf_5 : decode cX10_isOf 5 = .ok (.iconst 1, 1) := by decide +kernel
theorem dX10_isOf_6 : decode cX10_isOf 6 = .ok (.if_icmp .ne 7, 3) := by decide +kernel
theorem dX10_isOf_9 : decode cX10_isOf 9 = .ok (.iconst 1, 1) := by decide +kernel
theorem dX10_isOf_10 : decode cX10_isOf 10 = .ok (.goto 4, 3) := by decide +kernel
theorem dX10_isOf_13 : decode cX10_isOf 13 = .ok (.iconst 0, 1) := by decide +kernel
theorem dX10_isOf_14 : decode cX10_isOf 14 = .ok (.ireturn, 1) := by decide +kernel
def f_X10_isOf (i0 : Int32) (i1 : Int32) (σ : mm_S) : Option (Int32 × mm_S) :=
    if ((i0 >>> (i1 &&& 31)) &&& (1 : Int32)) = (1 : Int32) then
      some ((1 : Int32), σ)
    else
      some ((0 : Int32), σ)
theorem v_X10_isOf {g : mm_G} (d : Nat) {i0 : Int32} {i1 : Int32} {σ : mm_S} {res : Int32 × mm_S}  (h : f_X10_isOf i0 i1 σ = some res) : SM g (d + 0) yy_X10_isOf [.int i0, .int i1] σ (.int res.1) res.2 := by
  refine s_of (by decide) (Nat.le_of_ble_eq_true rfl) (L := [(0, .int i0), (1, .int i1)]) rfl ?_
  unfold f_X10_isOf at h
  refine e_iload_n 0 dX10_isOf_0 rfl rfl ?_
  refine e_iload_n 1 dX10_isOf_1 rfl rfl ?_
  refine e_ishr dX10_isOf_2 ?_
  refine e_iconst (v := (1 : Int32)) dX10_isOf_3 (by decide) ?_
  refine e_iand dX10_isOf_4 ?_
  refine e_iconst (v := (1 : Int32)) dX10_isOf_5 (by decide) ?_
  refine e_icmp_ne 13 dX10_isOf_6 (by decide) (fun c2 => ?_) (fun c2 => ?_)
  · rw [if_neg c2] at h
    refine e_iconst (v := (0 : Int32)) dX10_isOf_13 (by decide) ?_
    obtain rfl := Option.some.inj h
    exact s_ret rfl ⟨_, rfl, nb1 (Or.inl rfl)⟩ dX10_isOf_14
  · rw [if_pos c2] at h
    refine e_iconst (v := (1 : Int32)) dX10_isOf_9 (by decide) ?_
    refine e_goto 14 dX10_isOf_10 (by decide) ?_
    obtain rfl := Option.some.inj h
    exact s_ret rfl ⟨_, rfl, nb1 (Or.inr rfl)⟩ dX10_isOf_14
abbrev yy_X10_bits : mm_Y := (yX10_bits, cX10_bits, 3, (some .int))
theorem dX10_bits_0 : decode cX10_bits 0 = .ok (.iconst 0, 1) := by decide +kernel
theorem dX10_bits_1 : decode cX10_bits 1 = .ok (.istore_n 1, 1) := by decide +kernel
theorem dX10_bits_2 : decode cX10_bits 2 = .ok (.iload_n 0, 1) := by decide +kernel
theorem dX10_bits_3 : decode cX10_bits 3 = .ok (.istore_n 2, 1) := by decide +kernel
theorem dX10_bits_4 : decode cX10_bits 4 = .ok (.iload_n 2, 1) := by decide +kernel
theorem dX10_bits_5 : decode cX10_bits 5 = .ok (.ifCond .eq 15, 3) := by decide +kernel
theorem dX10_bits_8 : decode cX10_bits 8 = .ok (.iinc 1 1, 3) := by decide +kernel
theorem dX10_bits_11 : decode cX10_bits 11 = .ok (.iload_n 2, 1) := by decide +kernel
theorem dX10_bits_12 : decode cX10_bits 12 = .ok (.iload_n 2, 1) := by decide +kernel
theorem dX10_bits_13 : decode cX10_bits 13 = .ok (.iconst 1, 1) := by decide +kernel
theorem dX10_bits_14 : decode cX10_bits 14 = .ok (.isub, 1) := by decide +kernel
theorem dX10_bits_15 : decode cX10_bits 15 = .ok (.iand, 1) := by decide +kernel
theorem dX10_bits_16 : decode cX10_bits 16 = .ok (.istore_n 2, 1) := by decide +kernel
theorem dX10_bits_17 : decode cX10_bits 17 = .ok (.goto (-13), 3) := by decide +kernel
theorem dX10_bits_20 : decode cX10_bits 20 = .ok (.iload_n 1, 1) := by decide +kernel
theorem dX10_bits_21 : decode cX10_bits 21 = .ok (.ireturn, 1) := by decide +kernel
def f_X10_bits_4 (i1 : Int32) (i2 : Int32) (σ : mm_S) : Option (Int32 × mm_S) :=
  lp lpN (fun (k4 : (Int32 × Int32) → mm_S → Option (Int32 × mm_S)) (v : Int32 × Int32) (σ : mm_S) =>
    if v.2 = 0 then
      some (v.1, σ)
    else
      lt (v.1 + Int32.ofInt (1)) fun x2 =>
      lt ((v.2 &&& (v.2 - (1 : Int32)))) fun x4 =>
      k4 (x2, x4) σ) (i1, i2) σ
theorem v_X10_bits_4 {g : mm_G} (d : Nat) {i1 : Int32} {i2 : Int32} {σ : mm_S} {res : Int32 × mm_S}   (h : f_X10_bits_4 i1 i2 σ = some res) : SV g (d + 0) yy_X10_bits 4 [(1, .int i1), (2, .int i2)] [] σ (.int res.1) res.2 := by
  unfold f_X10_bits_4 at h
  refine lp_ind (P := fun v σ => SV g (d + 0) yy_X10_bits 4 [(1, .int v.1), (2, .int v.2)] [] σ (.int res.1) res.2) (fun k4 H4 v σ h => ?_) _ (i1, i2) σ h
  refine e_iload_n 1 dX10_bits_4 rfl rfl ?_
  refine e_if_eq 20 dX10_bits_5 (by decide) (fun c1 => ?_) (fun c1 => ?_)
  · rw [if_pos c1] at h
    refine e_iload_n 0 dX10_bits_20 rfl rfl ?_
    obtain rfl := Option.some.inj h
    exact s_ret rfl ⟨_, rfl, rfl⟩ dX10_bits_21
  · rw [if_neg c1] at h
    obtain ⟨x2, q3, h⟩ := lt_some h
    refine e_iinc (v := x2) (L' := [(1, .int x2), (2, .int v.2)]) 0 dX10_bits_8 rfl q3.symm (by decide) rfl ?_
    refine e_iload_n 1 dX10_bits_11 rfl rfl ?_
    refine e_iload_n 1 dX10_bits_12 rfl rfl ?_
    refine e_iconst (v := (1 : Int32)) dX10_bits_13 (by decide) ?_
    refine e_isub dX10_bits_14 ?_
    refine e_iand dX10_bits_15 ?_
    obtain ⟨x4, q5, h⟩ := lt_some h
    refine s_nmi q5 ?_
    refine e_istore_n (L' := [(1, .int x2), (2, .int x4)]) dX10_bits_16 rfl (by decide) rfl ?_
    refine e_goto 4 dX10_bits_17 (by decide) ?_
    refine s_pick (L' := [(1, .int x2), (2, .int x4)]) [0, 1] rfl ?_
    exact H4 (x2, x4) σ h
def f_X10_bits (i0 : Int32) (σ : mm_S) : Option (Int32 × mm_S) :=
    f_X10_bits_4 (0 : Int32) i0 σ
theorem v_X10_bits {g : mm_G} (d : Nat) {i0 : Int32} {σ : mm_S} {res : Int32 × mm_S}  (h : f_X10_bits i0 σ = some res) : SM g (d + 0) yy_X10_bits [.int i0] σ (.int res.1) res.2 := by
  refine s_of (by decide) (Nat.le_of_ble_eq_true rfl) (L := [(0, .int i0)]) rfl ?_
  unfold f_X10_bits at h
  refine e_iconst (v := (0 : Int32)) dX10_bits_0 (by decide) ?_
  refine e_istore_n (L' := [(0, .int i0), (1, .int (0 : Int32))]) dX10_bits_1 rfl (by decide) rfl ?_
  refine e_iload_n 0 dX10_bits_2 rfl rfl ?_
  refine e_istore_n (L' := [(0, .int i0), (1, .int (0 : Int32)), (2, .int i0)]) dX10_bits_3 rfl (by decide) rfl ?_
  refine s_pick (L' := [(1, .int (0 : Int32)), (2, .int i0)]) [1, 2] rfl ?_
  exact v_X10_bits_4 d  h
abbrev yy_X10_four : mm_Y := (yX10_four, cX10_four, 3, none)
theorem dX10_four_0 : decode cX10_four 0 = .ok (.bipush 24, 2) := by decide +kernel
theorem dX10_four_2 : decode cX10_four 2 = .ok (.istore_n 2, 1) := by decide +kernel
theorem dX10_four_3 : decode cX10_four 3 = .ok (.iload_n 2, 1) := by decide +kernel
theorem dX10_four_4 : decode cX10_four 4 = .ok (.ifCond .lt 32, 3) := by decide +kernel
theorem dX10_four_7 : decode cX10_four 7 = .ok (.aload_n 0, 1) := by decide +kernel
theorem dX10_four_8 : decode cX10_four 8 = .ok (.getfield 7, 3) := by decide +kernel
theorem dX10_four_11 : decode cX10_four 11 = .ok (.aload_n 0, 1) := by decide +kernel
theorem dX10_four_12 : decode cX10_four 12 = .ok (.getfield 98, 3) := by decide +kernel
theorem dX10_four_15 : decode cX10_four 15 = .ok (.iload_n 1, 1) := by decide +kernel
theorem dX10_four_16 : decode cX10_four 16 = .ok (.iload_n 2, 1) := by decide +kernel
theorem dX10_four_17 : decode cX10_four 17 = .ok (.ishr, 1) := by decide +kernel
theorem dX10_four_18 : decode cX10_four 18 = .ok (.i2b, 1) := by decide +kernel
theorem dX10_four_19 : decode cX10_four 19 = .ok (.bastore, 1) := by decide +kernel
theorem dX10_four_20 : decode cX10_four 20 = .ok (.aload_n 0, 1) := by decide +kernel
theorem dX10_four_21 : decode cX10_four 21 = .ok (.dup, 1) := by decide +kernel
theorem dX10_four_22 : decode cX10_four 22 = .ok (.getfield 98, 3) := by decide +kernel
theorem dX10_four_25 : decode cX10_four 25 = .ok (.iconst 1, 1) := by decide +kernel
theorem dX10_four_26 : decode cX10_four 26 = .ok (.iadd, 1) := by decide +kernel
theorem dX10_four_27 : decode cX10_four 27 = .ok (.putfield 98, 3) := by decide +kernel
theorem dX10_four_30 : decode cX10_four 30 = .ok (.iinc 2 (-8), 3) := by decide +kernel
theorem dX10_four_33 : decode cX10_four 33 = .ok (.goto (-30), 3) := by decide +kernel
theorem dX10_four_36 : decode cX10_four 36 = .ok (.return_, 1) := by decide +kernel
def f_X10_four_3 (a0 : Nat) (i1 : Int32) (i2 : Int32) (σ : mm_S) : Option (mm_S) :=
  lp lpN (fun (k3 : (Int32) → mm_S → Option (mm_S)) (v : Int32) (σ : mm_S) =>
    if v < 0 then
      some σ
    else
      gd (σ.1 a0 1) 400 <|
      lt (su_i σ 215 (σ.1 a0 1).toNatClampNeg (vp_nar .byte ((i1 >>> (v &&& 31)) : Int32).toInt8.toInt32)) fun σ3 =>
      lt (su_i σ3 a0 1 ((σ3.1 a0 1) + (1 : Int32))) fun σ5 =>
      lt (v + Int32.ofInt (-8)) fun x7 =>
      k3 x7 σ5) i2 σ
theorem v_X10_four_3 {g : mm_G} (d : Nat) {a0 : Nat} {i1 : Int32} {i2 : Int32} {σ : mm_S} {res : mm_S}  (h_a0 : (mm_K a0).1 = 10) (h : f_X10_four_3 a0 i1 i2 σ = some res) : SV g (d + 0) yy_X10_four 3 [(0, .ref a0), (1, .int i1), (2, .int i2)] [] σ .null res := by
  unfold f_X10_four_3 at h
  refine lp_ind (P := fun v σ => SV g (d + 0) yy_X10_four 3 [(0, .ref a0), (1, .int i1), (2, .int v)] [] σ .null res) (fun k3 H3 v σ h => ?_) _ i2 σ h
  refine e_iload_n 2 dX10_four_3 rfl rfl ?_
  refine e_if_lt 36 dX10_four_4 (by decide) (fun c1 => ?_) (fun c1 => ?_)
  · rw [if_pos c1] at h
    obtain rfl := Option.some.inj h
    exact s_ret rfl rfl dX10_four_36
  · rw [if_neg c1] at h
    refine e_aload_n 0 dX10_four_7 rfl rfl ?_
    refine s_getr dX10_four_8 fl_RX10_7 h_a0 (r_10_0 h_a0).1 ?_
    refine e_aload_n 0 dX10_four_11 rfl rfl ?_
    refine s_geti dX10_four_12 fl_RX10_98 h_a0 ?_
    refine e_iload_n 1 dX10_four_15 rfl rfl ?_
    refine e_iload_n 2 dX10_four_16 rfl rfl ?_
    refine e_ishr dX10_four_17 ?_
    refine e_i2b dX10_four_18 ?_
    obtain ⟨q2, h⟩ := gd_some h
    refine s_bast dX10_four_19 (r_10_0 (w := 0) h_a0).2 q2 ?_
    obtain ⟨σ3, q4, h⟩ := lt_some h
    refine s_nms q4 ?_
    refine e_aload_n 0 dX10_four_20 rfl rfl ?_
    refine e_dup dX10_four_21 rfl ?_
    refine s_geti dX10_four_22 fl_RX10_98 h_a0 ?_
    refine e_iconst (v := (1 : Int32)) dX10_four_25 (by decide) ?_
    refine e_iadd dX10_four_26 ?_
    refine s_puti dX10_four_27 fl_RX10_98 h_a0 rfl rfl rfl ?_
    obtain ⟨σ5, q6, h⟩ := lt_some h
    refine s_nms q6 ?_
    obtain ⟨x7, q8, h⟩ := lt_some h
    refine e_iinc (v := x7) (L' := [(0, .ref a0), (1, .int i1), (2, .int x7)]) 2 dX10_four_30 rfl q8.symm (by decide) rfl ?_
    refine e_goto 3 dX10_four_33 (by decide) ?_
    refine s_pick (L' := [(0, .ref a0), (1, .int i1), (2, .int x7)]) [0, 1, 2] rfl ?_
    exact H3 x7 σ5 h
def f_X10_four (a0 : Nat) (i1 : Int32) (σ : mm_S) : Option (mm_S) :=
    f_X10_four_3 a0 i1 (24 : Int32) σ
theorem v_X10_four {g : mm_G} (d : Nat) {a0 : Nat} {i1 : Int32} {σ : mm_S} {res : mm_S} (h_a0 : (mm_K a0).1 = 10) (h : f_X10_four a0 i1 σ = some res) : SM g (d + 0) yy_X10_four [.ref a0, .int i1] σ .null res := by
  refine s_of (by decide) (Nat.le_of_ble_eq_true rfl) (L := [(0, .ref a0), (1, .int i1)]) rfl ?_
  unfold f_X10_four at h
  refine e_bipush (v := (24 : Int32)) dX10_four_0 (by decide) ?_
  refine e_istore_n (L' := [(0, .ref a0), (1, .int i1), (2, .int (24 : Int32))]) dX10_four_2 rfl (by decide) rfl ?_
  refine s_pick (L' := [(0, .ref a0), (1, .int i1), (2, .int (24 : Int32))]) [0, 1, 2] rfl ?_
  exact v_X10_four_3 d h_a0 h
abbrev yy_X10_feed : mm_Y := (yX10_feed, cX10_feed, 6, (some .int))
theorem dX10_feed_0 : decode cX10_feed 0 = .ok (.aload_n 0, 1) := by decide +kernel
theorem dX10_feed_1 : decode cX10_feed 1 = .ok (.getfield 98, 3) := by decide +kernel
theorem dX10_feed_4 : decode cX10_feed 4 = .ok (.bipush 20, 2) := by decide +kernel
theorem dX10_feed_6 : decode cX10_feed 6 = .ok (.iadd, 1) := by decide +kernel
theorem dX10_feed_7 : decode cX10_feed 7 = .ok (.sipush 400, 3) := by decide +kernel
theorem dX10_feed_10 : decode cX10_feed 10 = .ok (.if_icmp .le 5, 3) := by decide +kernel
theorem dX10_feed_13 : decode cX10_feed 13 = .ok (.iconst (-1), 1) := by decide +kernel
theorem dX10_feed_14 : decode cX10_feed 14 = .ok (.ireturn, 1) := by decide +kernel
theorem dX10_feed_15 : decode cX10_feed 15 = .ok (.aload_n 0, 1) := by decide +kernel
theorem dX10_feed_16 : decode cX10_feed 16 = .ok (.iload_n 1, 1) := by decide +kernel
theorem dX10_feed_17 : decode cX10_feed 17 = .ok (.invokevirtual 101, 3) := by decide +kernel
theorem dX10_feed_20 : decode cX10_feed 20 = .ok (.aload_n 0, 1) := by decide +kernel
theorem dX10_feed_21 : decode cX10_feed 21 = .ok (.iload_n 2, 1) := by decide +kernel
theorem dX10_feed_22 : decode cX10_feed 22 = .ok (.invokevirtual 101, 3) := by decide +kernel
theorem dX10_feed_25 : decode cX10_feed 25 = .ok (.aload_n 0, 1) := by decide +kernel
theorem dX10_feed_26 : decode cX10_feed 26 = .ok (.iload_n 3, 1) := by decide +kernel
theorem dX10_feed_27 : decode cX10_feed 27 = .ok (.invokevirtual 101, 3) := by decide +kernel
theorem dX10_feed_30 : decode cX10_feed 30 = .ok (.aload_n 0, 1) := by decide +kernel
theorem dX10_feed_31 : decode cX10_feed 31 = .ok (.iload 4, 2) := by decide +kernel
theorem dX10_feed_33 : decode cX10_feed 33 = .ok (.invokevirtual 101, 3) := by decide +kernel
theorem dX10_feed_36 : decode cX10_feed 36 = .ok (.aload_n 0, 1) := by decide +kernel
theorem dX10_feed_37 : decode cX10_feed 37 = .ok (.iload 5, 2) := by decide +kernel
theorem dX10_feed_39 : decode cX10_feed 39 = .ok (.invokevirtual 101, 3) := by decide +kernel
theorem dX10_feed_42 : decode cX10_feed 42 = .ok (.aload_n 0, 1) := by decide +kernel
theorem dX10_feed_43 : decode cX10_feed 43 = .ok (.getfield 98, 3) := by decide +kernel
theorem dX10_feed_46 : decode cX10_feed 46 = .ok (.ireturn, 1) := by decide +kernel
def f_X10_feed (a0 : Nat) (i1 : Int32) (i2 : Int32) (i3 : Int32) (i4 : Int32) (i5 : Int32) (σ : mm_S) : Option (Int32 × mm_S) :=
    if ((σ.1 a0 1) + (20 : Int32)) ≤ (400 : Int32) then
      bv (f_X10_four a0 i1 σ) fun σ14 =>
      bv (f_X10_four a0 i2 σ14) fun σ16 =>
      bv (f_X10_four a0 i3 σ16) fun σ18 =>
      bv (f_X10_four a0 i4 σ18) fun σ20 =>
      bv (f_X10_four a0 i5 σ20) fun σ22 =>
      some ((σ22.1 a0 1), σ22)
    else
      some ((-1 : Int32), σ)
theorem v_X10_feed {g : mm_G} (d : Nat) {a0 : Nat} {i1 : Int32} {i2 : Int32} {i3 : Int32} {i4 : Int32} {i5 : Int32} {σ : mm_S} {res : Int32 × mm_S} (h_a0 : (mm_K a0).1 = 10) (h : f_X10_feed a0 i1 i2 i3 i4 i5 σ = some res) : SM g (d + 1) yy_X10_feed [.ref a0, .int i1, .int i2, .int i3, .int i4, .int i5] σ (.int res.1) res.2 := by
  refine s_of (by decide) (Nat.le_of_ble_eq_true rfl) (L := [(0, .ref a0), (1, .int i1), (2, .int i2), (3, .int i3), (4, .int i4), (5, .int i5)]) rfl ?_
  unfold f_X10_feed at h
  refine e_aload_n 0 dX10_feed_0 rfl rfl ?_
  refine s_geti dX10_feed_1 fl_RX10_98 h_a0 ?_
  refine e_bipush (v := (20 : Int32)) dX10_feed_4 (by decide) ?_
  refine e_iadd dX10_feed_6 ?_
  refine e_sipush (v := (400 : Int32)) dX10_feed_7 (by decide) ?_
  refine e_icmp_le 15 dX10_feed_10 (by decide) (fun c12 => ?_) (fun c12 => ?_)
  · rw [if_pos c12] at h
    refine e_aload_n 0 dX10_feed_15 rfl rfl ?_
    refine e_iload_n 1 dX10_feed_16 rfl rfl ?_
    obtain ⟨σ14, q13, h⟩ := bv_some h
    refine s_callVv [.int i1] dX10_feed_17 ml_RX10_101 h_a0 rfl rfl (v_X10_four (d + 0) h_a0 q13) (Nat.le_of_ble_eq_true rfl) ?_
    refine e_aload_n 0 dX10_feed_20 rfl rfl ?_
    refine e_iload_n 2 dX10_feed_21 rfl rfl ?_
    obtain ⟨σ16, q15, h⟩ := bv_some h
    refine s_callVv [.int i2] dX10_feed_22 ml_RX10_101 h_a0 rfl rfl (v_X10_four (d + 0) h_a0 q15) (Nat.le_of_ble_eq_true rfl) ?_
    refine e_aload_n 0 dX10_feed_25 rfl rfl ?_
    refine e_iload_n 3 dX10_feed_26 rfl rfl ?_
    obtain ⟨σ18, q17, h⟩ := bv_some h
    refine s_callVv [.int i3] dX10_feed_27 ml_RX10_101 h_a0 rfl rfl (v_X10_four (d + 0) h_a0 q17) (Nat.le_of_ble_eq_true rfl) ?_
    refine e_aload_n 0 dX10_feed_30 rfl rfl ?_
    refine e_iload 4 dX10_feed_31  rfl ?_
    obtain ⟨σ20, q19, h⟩ := bv_some h
    refine s_callVv [.int i4] dX10_feed_33 ml_RX10_101 h_a0 rfl rfl (v_X10_four (d + 0) h_a0 q19) (Nat.le_of_ble_eq_true rfl) ?_
    refine e_aload_n 0 dX10_feed_36 rfl rfl ?_
    refine e_iload 5 dX10_feed_37  rfl ?_
    obtain ⟨σ22, q21, h⟩ := bv_some h
    refine s_callVv [.int i5] dX10_feed_39 ml_RX10_101 h_a0 rfl rfl (v_X10_four (d + 0) h_a0 q21) (Nat.le_of_ble_eq_true rfl) ?_
    refine e_aload_n 0 dX10_feed_42 rfl rfl ?_
    refine s_geti dX10_feed_43 fl_RX10_98 h_a0 ?_
    obtain rfl := Option.some.inj h
    exact s_ret rfl ⟨_, rfl, rfl⟩ dX10_feed_46
  · rw [if_neg c12] at h
    refine e_iconst (v := (-1 : Int32)) dX10_feed_13 (by decide) ?_
    obtain rfl := Option.some.inj h
    exact s_ret rfl ⟨_, rfl, rfl⟩ dX10_feed_14
abbrev yy_X10_end : mm_Y := (yX10_end, cX10_end, 2, (some .int))
theorem dX10_end_0 : decode cX10_end 0 = .ok (.iload_n 1, 1) := by decide +kernel
theorem dX10_end_1 : decode cX10_end 1 = .ok (.ifCond .lt 11, 3) := by decide +kernel
theorem dX10_end_4 : decode cX10_end 4 = .ok (.iload_n 1, 1) := by decide +kernel
theorem dX10_end_5 : decode cX10_end 5 = .ok (.aload_n 0, 1) := by decide +kernel
theorem dX10_end_6 : decode cX10_end 6 = .ok (.getfield 98, 3) := by decide +kernel
theorem dX10_end_9 : decode cX10_end 9 = .ok (.if_icmp .le 5, 3) := by decide +kernel
theorem dX10_end_12 : decode cX10_end 12 = .ok (.iconst (-1), 1) := by decide +kernel
theorem dX10_end_13 : decode cX10_end 13 = .ok (.ireturn, 1) := by decide +kernel
theorem dX10_end_14 : decode cX10_end 14 = .ok (.aload_n 0, 1) := by decide +kernel
theorem dX10_end_15 : decode cX10_end 15 = .ok (.iload_n 1, 1) := by decide +kernel
theorem dX10_end_16 : decode cX10_end 16 = .ok (.putfield 98, 3) := by decide +kernel
theorem dX10_end_19 : decode cX10_end 19 = .ok (.iload_n 1, 1) := by decide +kernel
theorem dX10_end_20 : decode cX10_end 20 = .ok (.ireturn, 1) := by decide +kernel
def f_X10_end (a0 : Nat) (i1 : Int32) (σ : mm_S) : Option (Int32 × mm_S) :=
    if i1 < 0 then
      some ((-1 : Int32), σ)
    else
      if i1 ≤ (σ.1 a0 1) then
        lt (su_i σ a0 1 i1) fun σ7 =>
        some (i1, σ7)
      else
        some ((-1 : Int32), σ)
theorem v_X10_end {g : mm_G} (d : Nat) {a0 : Nat} {i1 : Int32} {σ : mm_S} {res : Int32 × mm_S} (h_a0 : (mm_K a0).1 = 10) (h : f_X10_end a0 i1 σ = some res) : SM g (d + 0) yy_X10_end [.ref a0, .int i1] σ (.int res.1) res.2 := by
  refine s_of (by decide) (Nat.le_of_ble_eq_true rfl) (L := [(0, .ref a0), (1, .int i1)]) rfl ?_
  unfold f_X10_end at h
  refine e_iload_n 1 dX10_end_0 rfl rfl ?_
  refine e_if_lt 12 dX10_end_1 (by decide) (fun c5 => ?_) (fun c5 => ?_)
  · rw [if_pos c5] at h
    refine e_iconst (v := (-1 : Int32)) dX10_end_12 (by decide) ?_
    obtain rfl := Option.some.inj h
    exact s_ret rfl ⟨_, rfl, rfl⟩ dX10_end_13
  · rw [if_neg c5] at h
    refine e_iload_n 1 dX10_end_4 rfl rfl ?_
    refine e_aload_n 0 dX10_end_5 rfl rfl ?_
    refine s_geti dX10_end_6 fl_RX10_98 h_a0 ?_
    refine e_icmp_le 14 dX10_end_9 (by decide) (fun c6 => ?_) (fun c6 => ?_)
    · rw [if_pos c6] at h
      refine e_aload_n 0 dX10_end_14 rfl rfl ?_
      refine e_iload_n 1 dX10_end_15 rfl rfl ?_
      refine s_puti dX10_end_16 fl_RX10_98 h_a0 rfl rfl rfl ?_
      obtain ⟨σ7, q8, h⟩ := lt_some h
      refine s_nms q8 ?_
      refine e_iload_n 1 dX10_end_19 rfl rfl ?_
      obtain rfl := Option.some.inj h
      exact s_ret rfl ⟨_, rfl, rfl⟩ dX10_end_20
    · rw [if_neg c6] at h
      refine e_iconst (v := (-1 : Int32)) dX10_end_12 (by decide) ?_
      obtain rfl := Option.some.inj h
      exact s_ret rfl ⟨_, rfl, rfl⟩ dX10_end_13
abbrev yy_X10_fails : mm_Y := (yX10_fails, cX10_fails, 3, (some .boolean))
theorem dX10_fails_0 : decode cX10_fails 0 = .ok (.aload_n 0, 1) := by decide +kernel
theorem dX10_fails_1 : decode cX10_fails 1 = .ok (.getfield 105, 3) := by decide +kernel
theorem dX10_fails_4 : decode cX10_fails 4 = .ok (.ifCond .ne 15, 3) := by decide +kernel
theorem dX10_fails_7 : decode cX10_fails 7 = .ok (.aload_n 0, 1) := by decide +kernel
theorem dX10_fails_8 : decode cX10_fails 8 = .ok (.iconst 1, 1) := by decide +kernel
theorem dX10_fails_9 : decode cX10_fails 9 = .ok (.bipush 8, 2) := by decide +kernel
theorem dX10_fails_11 : decode cX10_fails 11 = .ok (.iload_n 2, 1) := by decide +kernel
theorem dX10_fails_12 : decode cX10_fails 12 = .ok (.imul, 1) := by decide +kernel
theorem dX10_fails_13 : decode cX10_fails 13 = .ok (.iadd, 1) := by decide +kernel
theorem dX10_fails_14 : decode cX10_fails 14 = .ok (.iload_n 1, 1) := by decide +kernel
theorem dX10_fails_15 : decode cX10_fails 15 = .ok (.iadd, 1) := by decide +kernel
theorem dX10_fails_16 : decode cX10_fails 16 = .ok (.putfield 105, 3) := by decide +kernel
theorem dX10_fails_19 : decode cX10_fails 19 = .ok (.iconst 0, 1) := by decide +kernel
theorem dX10_fails_20 : decode cX10_fails 20 = .ok (.ireturn, 1) := by decide +kernel
def f_X10_fails (a0 : Nat) (i1 : Int32) (i2 : Int32) (σ : mm_S) : Option (Int32 × mm_S) :=
    if (σ.1 a0 9) = 0 then
      lt (su_i σ a0 9 (((1 : Int32) + ((8 : Int32) * i2)) + i1)) fun σ5 =>
      some ((0 : Int32), σ5)
    else
      some ((0 : Int32), σ)
theorem v_X10_fails {g : mm_G} (d : Nat) {a0 : Nat} {i1 : Int32} {i2 : Int32} {σ : mm_S} {res : Int32 × mm_S} (h_a0 : (mm_K a0).1 = 10) (h : f_X10_fails a0 i1 i2 σ = some res) : SM g (d + 0) yy_X10_fails [.ref a0, .int i1, .int i2] σ (.int res.1) res.2 := by
  refine s_of (by decide) (Nat.le_of_ble_eq_true rfl) (L := [(0, .ref a0), (1, .int i1), (2, .int i2)]) rfl ?_
  unfold f_X10_fails at h
  refine e_aload_n 0 dX10_fails_0 rfl rfl ?_
  refine s_geti dX10_fails_1 fl_RX10_105 h_a0 ?_
  refine e_if_ne 19 dX10_fails_4 (by decide) (fun c4 => ?_) (fun c4 => ?_)
  · rw [if_neg c4] at h
    refine e_iconst (v := (0 : Int32)) dX10_fails_19 (by decide) ?_
    obtain rfl := Option.some.inj h
    exact s_ret rfl ⟨_, rfl, nb1 (Or.inl rfl)⟩ dX10_fails_20
  · rw [if_pos c4] at h
    refine e_aload_n 0 dX10_fails_7 rfl rfl ?_
    refine e_iconst (v := (1 : Int32)) dX10_fails_8 (by decide) ?_
    refine e_bipush (v := (8 : Int32)) dX10_fails_9 (by decide) ?_
    refine e_iload_n 2 dX10_fails_11 rfl rfl ?_
    refine e_imul dX10_fails_12 ?_
    refine e_iadd dX10_fails_13 ?_
    refine e_iload_n 1 dX10_fails_14 rfl rfl ?_
    refine e_iadd dX10_fails_15 ?_
    refine s_puti dX10_fails_16 fl_RX10_105 h_a0 rfl rfl rfl ?_
    obtain ⟨σ5, q6, h⟩ := lt_some h
    refine s_nms q6 ?_
    refine e_iconst (v := (0 : Int32)) dX10_fails_19 (by decide) ?_
    obtain rfl := Option.some.inj h
    exact s_ret rfl ⟨_, rfl, nb1 (Or.inl rfl)⟩ dX10_fails_20
abbrev yy_X10_see : mm_Y := (yX10_see, cX10_see, 1, (some .int))
theorem dX10_see_0 : decode cX10_see 0 = .ok (.aload_n 0, 1) := by decide +kernel
theorem dX10_see_1 : decode cX10_see 1 = .ok (.getfield 108, 3) := by decide +kernel
theorem dX10_see_4 : decode cX10_see 4 = .ok (.aload_n 0, 1) := by decide +kernel
theorem dX10_see_5 : decode cX10_see 5 = .ok (.getfield 98, 3) := by decide +kernel
theorem dX10_see_8 : decode cX10_see 8 = .ok (.if_icmp .ge 30, 3) := by decide +kernel
theorem dX10_see_11 : decode cX10_see 11 = .ok (.aload_n 0, 1) := by decide +kernel
theorem dX10_see_12 : decode cX10_see 12 = .ok (.getfield 7, 3) := by decide +kernel
theorem dX10_see_15 : decode cX10_see 15 = .ok (.aload_n 0, 1) := by decide +kernel
theorem dX10_see_16 : decode cX10_see 16 = .ok (.getfield 108, 3) := by decide +kernel
theorem dX10_see_19 : decode cX10_see 19 = .ok (.baload, 1) := by decide +kernel
theorem dX10_see_20 : decode cX10_see 20 = .ok (.bipush 32, 2) := by decide +kernel
theorem dX10_see_22 : decode cX10_see 22 = .ok (.if_icmp .ne 16, 3) := by decide +kernel
theorem dX10_see_25 : decode cX10_see 25 = .ok (.aload_n 0, 1) := by decide +kernel
theorem dX10_see_26 : decode cX10_see 26 = .ok (.dup, 1) := by decide +kernel
theorem dX10_see_27 : decode cX10_see 27 = .ok (.getfield 108, 3) := by decide +kernel
theorem dX10_see_30 : decode cX10_see 30 = .ok (.iconst 1, 1) := by decide +kernel
theorem dX10_see_31 : decode cX10_see 31 = .ok (.iadd, 1) := by decide +kernel
theorem dX10_see_32 : decode cX10_see 32 = .ok (.putfield 108, 3) := by decide +kernel
theorem dX10_see_35 : decode cX10_see 35 = .ok (.goto (-35), 3) := by decide +kernel
theorem dX10_see_38 : decode cX10_see 38 = .ok (.aload_n 0, 1) := by decide +kernel
theorem dX10_see_39 : decode cX10_see 39 = .ok (.getfield 108, 3) := by decide +kernel
theorem dX10_see_42 : decode cX10_see 42 = .ok (.aload_n 0, 1) := by decide +kernel
theorem dX10_see_43 : decode cX10_see 43 = .ok (.getfield 98, 3) := by decide +kernel
theorem dX10_see_46 : decode cX10_see 46 = .ok (.if_icmp .ge 19, 3) := by decide +kernel
theorem dX10_see_49 : decode cX10_see 49 = .ok (.aload_n 0, 1) := by decide +kernel
theorem dX10_see_50 : decode cX10_see 50 = .ok (.getfield 7, 3) := by decide +kernel
theorem dX10_see_53 : decode cX10_see 53 = .ok (.aload_n 0, 1) := by decide +kernel
theorem dX10_see_54 : decode cX10_see 54 = .ok (.getfield 108, 3) := by decide +kernel
theorem dX10_see_57 : decode cX10_see 57 = .ok (.baload, 1) := by decide +kernel
theorem dX10_see_58 : decode cX10_see 58 = .ok (.sipush 255, 3) := by decide +kernel
theorem dX10_see_61 : decode cX10_see 61 = .ok (.iand, 1) := by decide +kernel
theorem dX10_see_62 : decode cX10_see 62 = .ok (.goto 4, 3) := by decide +kernel
theorem dX10_see_65 : decode cX10_see 65 = .ok (.iconst (-1), 1) := by decide +kernel
theorem dX10_see_66 : decode cX10_see 66 = .ok (.ireturn, 1) := by decide +kernel
def f_X10_see_38 (a0 : Nat) (σ : mm_S) : Option (Int32 × mm_S) :=
    if (σ.1 a0 1) ≤ (σ.1 a0 8) then
      some ((-1 : Int32), σ)
    else
      gd (σ.1 a0 8) 400 <|
      some (((σ.1 215 (σ.1 a0 8).toNatClampNeg) &&& (255 : Int32)), σ)
theorem v_X10_see_38 {g : mm_G} (d : Nat) {a0 : Nat} {σ : mm_S} {res : Int32 × mm_S}  (h_a0 : (mm_K a0).1 = 10) (h : f_X10_see_38 a0 σ = some res) : SV g (d + 0) yy_X10_see 38 [(0, .ref a0)] [] σ (.int res.1) res.2 := by
  unfold f_X10_see_38 at h
  refine e_aload_n 0 dX10_see_38 rfl rfl ?_
  refine s_geti dX10_see_39 fl_RX10_108 h_a0 ?_
  refine e_aload_n 0 dX10_see_42 rfl rfl ?_
  refine s_geti dX10_see_43 fl_RX10_98 h_a0 ?_
  refine e_icmp_ge 65 dX10_see_46 (by decide) (fun c1 => ?_) (fun c1 => ?_)
  · rw [if_pos c1] at h
    refine e_iconst (v := (-1 : Int32)) dX10_see_65 (by decide) ?_
    obtain rfl := Option.some.inj h
    exact s_ret rfl ⟨_, rfl, rfl⟩ dX10_see_66
  · rw [if_neg c1] at h
    refine e_aload_n 0 dX10_see_49 rfl rfl ?_
    refine s_getr dX10_see_50 fl_RX10_7 h_a0 (r_10_0 h_a0).1 ?_
    refine e_aload_n 0 dX10_see_53 rfl rfl ?_
    refine s_geti dX10_see_54 fl_RX10_108 h_a0 ?_
    obtain ⟨q2, h⟩ := gd_some h
    refine s_bald dX10_see_57 (r_10_0 (w := 0) h_a0).2 q2 ?_
    refine e_sipush (v := (255 : Int32)) dX10_see_58 (by decide) ?_
    refine e_iand dX10_see_61 ?_
    refine e_goto 66 dX10_see_62 (by decide) ?_
    obtain rfl := Option.some.inj h
    exact s_ret rfl ⟨_, rfl, rfl⟩ dX10_see_66
def f_X10_see_0 (a0 : Nat) (σ : mm_S) : Option (Int32 × mm_S) :=
  lp lpN (fun (k0 : (Unit) → mm_S → Option (Int32 × mm_S)) (v : Unit) (σ : mm_S) =>
    if (σ.1 a0 1) ≤ (σ.1 a0 8) then
      f_X10_see_38 a0 σ
    else
      gd (σ.1 a0 8) 400 <|
      if (σ.1 215 (σ.1 a0 8).toNatClampNeg) = (32 : Int32) then
        lt (su_i σ a0 8 ((σ.1 a0 8) + (1 : Int32))) fun σ6 =>
        k0 () σ6
      else
        f_X10_see_38 a0 σ) () σ
theorem v_X10_see_0 {g : mm_G} (d : Nat) {a0 : Nat} {σ : mm_S} {res : Int32 × mm_S}  (h_a0 : (mm_K a0).1 = 10) (h : f_X10_see_0 a0 σ = some res) : SV g (d + 0) yy_X10_see 0 [(0, .ref a0)] [] σ (.int res.1) res.2 := by
  unfold f_X10_see_0 at h
  refine lp_ind (P := fun v σ => SV g (d + 0) yy_X10_see 0 [(0, .ref a0)] [] σ (.int res.1) res.2) (fun k0 H0 v σ h => ?_) _ () σ h
  refine e_aload_n 0 dX10_see_0 rfl rfl ?_
  refine s_geti dX10_see_1 fl_RX10_108 h_a0 ?_
  refine e_aload_n 0 dX10_see_4 rfl rfl ?_
  refine s_geti dX10_see_5 fl_RX10_98 h_a0 ?_
  refine e_icmp_ge 38 dX10_see_8 (by decide) (fun c3 => ?_) (fun c3 => ?_)
  · rw [if_pos c3] at h
    refine s_pick (L' := [(0, .ref a0)]) [0] rfl ?_
    exact v_X10_see_38 d h_a0 h
  · rw [if_neg c3] at h
    refine e_aload_n 0 dX10_see_11 rfl rfl ?_
    refine s_getr dX10_see_12 fl_RX10_7 h_a0 (r_10_0 h_a0).1 ?_
    refine e_aload_n 0 dX10_see_15 rfl rfl ?_
    refine s_geti dX10_see_16 fl_RX10_108 h_a0 ?_
    obtain ⟨q4, h⟩ := gd_some h
    refine s_bald dX10_see_19 (r_10_0 (w := 0) h_a0).2 q4 ?_
    refine e_bipush (v := (32 : Int32)) dX10_see_20 (by decide) ?_
    refine e_icmp_ne 38 dX10_see_22 (by decide) (fun c5 => ?_) (fun c5 => ?_)
    · rw [if_neg c5] at h
      refine s_pick (L' := [(0, .ref a0)]) [0] rfl ?_
      exact v_X10_see_38 d h_a0 h
    · rw [if_pos c5] at h
      refine e_aload_n 0 dX10_see_25 rfl rfl ?_
      refine e_dup dX10_see_26 rfl ?_
      refine s_geti dX10_see_27 fl_RX10_108 h_a0 ?_
      refine e_iconst (v := (1 : Int32)) dX10_see_30 (by decide) ?_
      refine e_iadd dX10_see_31 ?_
      refine s_puti dX10_see_32 fl_RX10_108 h_a0 rfl rfl rfl ?_
      obtain ⟨σ6, q7, h⟩ := lt_some h
      refine s_nms q7 ?_
      refine e_goto 0 dX10_see_35 (by decide) ?_
      refine s_pick (L' := [(0, .ref a0)]) [0] rfl ?_
      exact H0 () σ6 h
def f_X10_see (a0 : Nat) (σ : mm_S) : Option (Int32 × mm_S) := f_X10_see_0 a0 σ
theorem v_X10_see {g : mm_G} (d : Nat) {a0 : Nat} {σ : mm_S} {res : Int32 × mm_S} (h_a0 : (mm_K a0).1 = 10) (h : f_X10_see a0 σ = some res) : SM g (d + 0) yy_X10_see [.ref a0] σ (.int res.1) res.2 := by
  refine s_of (by decide) (Nat.le_of_ble_eq_true rfl) (L := [(0, .ref a0)]) rfl ?_
  refine s_pick (L' := [(0, .ref a0)]) [0] rfl ?_
  exact v_X10_see_0 d h_a0 h
abbrev yy_X10_isDigit : mm_Y := (yX10_isDigit, cX10_isDigit, 2, (some .boolean))
theorem dX10_isDigit_0 : decode cX10_isDigit 0 = .ok (.iload_n 1, 1) := by decide +kernel
theorem dX10_isDigit_1 : decode cX10_isDigit 1 = .ok (.aload_n 0, 1) := by decide +kernel
theorem dX10_isDigit_2 : decode cX10_isDigit 2 = .ok (.getfield 98, 3) := by decide +kernel
theorem dX10_isDigit_5 : decode cX10_isDigit 5 = .ok (.if_icmp .ge 29, 3) := by decide +kernel
theorem dX10_isDigit_8 : decode cX10_isDigit 8 = .ok (.aload_n 0, 1) := by decide +kernel
theorem dX10_isDigit_9 : decode cX10_isDigit 9 = .ok (.getfield 7, 3) := by decide +kernel
theorem dX10_isDigit_12 : decode cX10_isDigit 12 = .ok (.iload_n 1, 1) := by decide +kernel
theorem dX10_isDigit_13 : decode cX10_isDigit 13 = .ok (.baload, 1) := by decide +kernel
theorem dX10_isDigit_14 : decode cX10_isDigit 14 = .ok (.bipush 48, 2) := by decide +kernel
theorem dX10_isDigit_16 : decode cX10_isDigit 16 = .ok (.if_icmp .lt 18, 3) := by decide +kernel
theorem dX10_isDigit_19 : decode cX10_isDigit 19 = .ok (.aload_n 0, 1) := by decide +kernel
theorem dX10_isDigit_20 : decode cX10_isDigit 20 = .ok (.getfield 7, 3) := by decide +kernel
theorem dX10_isDigit_23 : decode cX10_isDigit 23 = .ok (.iload_n 1, 1) := by decide +kernel
theorem dX10_isDigit_24 : decode cX10_isDigit 24 = .ok (.baload, 1) := by decide +kernel
theorem dX10_isDigit_25 : decode cX10_isDigit 25 = .ok (.bipush 57, 2) := by decide +kernel
theorem dX10_isDigit_27 : decode cX10_isDigit 27 = .ok (.if_icmp .gt 7, 3) := by decide +kernel
theorem dX10_isDigit_30 : decode cX10_isDigit 30 = .ok (.iconst 1, 1) := by decide +kernel
theorem dX10_isDigit_31 : decode cX10_isDigit 31 = .ok (.goto 4, 3) := by decide +kernel
theorem dX10_isDigit_34 : decode cX10_isDigit 34 = .ok (.iconst 0, 1) := by decide +kernel
theorem dX10_isDigit_35 : decode cX10_isDigit 35 = .ok (.ireturn, 1) := by decide +kernel
def f_X10_isDigit (a0 : Nat) (i1 : Int32) (σ : mm_S) : Option (Int32 × mm_S) :=
    if (σ.1 a0 1) ≤ i1 then
      some ((0 : Int32), σ)
    else
      gd i1 400 <|
      if (σ.1 215 i1.toNatClampNeg) < (48 : Int32) then
        some ((0 : Int32), σ)
      else
        gd i1 400 <|
        if (57 : Int32) < (σ.1 215 i1.toNatClampNeg) then
          some ((0 : Int32), σ)
        else
          some ((1 : Int32), σ)
theorem v_X10_isDigit {g : mm_G} (d : Nat) {a0 : Nat} {i1 : Int32} {σ : mm_S} {res : Int32 × mm_S} (h_a0 : (mm_K a0).1 = 10) (h : f_X10_isDigit a0 i1 σ = some res) : SM g (d + 0) yy_X10_isDigit [.ref a0, .int i1] σ (.int res.1) res.2 := by
  refine s_of (by decide) (Nat.le_of_ble_eq_true rfl) (L := [(0, .ref a0), (1, .int i1)]) rfl ?_
  unfold f_X10_isDigit at h
  refine e_iload_n 1 dX10_isDigit_0 rfl rfl ?_
  refine e_aload_n 0 dX10_isDigit_1 rfl rfl ?_
  refine s_geti dX10_isDigit_2 fl_RX10_98 h_a0 ?_
  refine e_icmp_ge 34 dX10_isDigit_5 (by decide) (fun c6 => ?_) (fun c6 => ?_)
  · rw [if_pos c6] at h
    refine e_iconst (v := (0 : Int32)) dX10_isDigit_34 (by decide) ?_
    obtain rfl := Option.some.inj h
    exact s_ret rfl ⟨_, rfl, nb1 (Or.inl rfl)⟩ dX10_isDigit_35
  · rw [if_neg c6] at h
    refine e_aload_n 0 dX10_isDigit_8 rfl rfl ?_
    refine s_getr dX10_isDigit_9 fl_RX10_7 h_a0 (r_10_0 h_a0).1 ?_
    refine e_iload_n 1 dX10_isDigit_12 rfl rfl ?_
    obtain ⟨q7, h⟩ := gd_some h
    refine s_bald dX10_isDigit_13 (r_10_0 (w := 0) h_a0).2 q7 ?_
    refine e_bipush (v := (48 : Int32)) dX10_isDigit_14 (by decide) ?_
    refine e_icmp_lt 34 dX10_isDigit_16 (by decide) (fun c8 => ?_) (fun c8 => ?_)
    · rw [if_pos c8] at h
      refine e_iconst (v := (0 : Int32)) dX10_isDigit_34 (by decide) ?_
      obtain rfl := Option.some.inj h
      exact s_ret rfl ⟨_, rfl, nb1 (Or.inl rfl)⟩ dX10_isDigit_35
    · rw [if_neg c8] at h
      refine e_aload_n 0 dX10_isDigit_19 rfl rfl ?_
      refine s_getr dX10_isDigit_20 fl_RX10_7 h_a0 (r_10_0 h_a0).1 ?_
      refine e_iload_n 1 dX10_isDigit_23 rfl rfl ?_
      obtain ⟨q9, h⟩ := gd_some h
      refine s_bald dX10_isDigit_24 (r_10_0 (w := 0) h_a0).2 q9 ?_
      refine e_bipush (v := (57 : Int32)) dX10_isDigit_25 (by decide) ?_
      refine e_icmp_gt 34 dX10_isDigit_27 (by decide) (fun c10 => ?_) (fun c10 => ?_)
      · rw [if_pos c10] at h
        refine e_iconst (v := (0 : Int32)) dX10_isDigit_34 (by decide) ?_
        obtain rfl := Option.some.inj h
        exact s_ret rfl ⟨_, rfl, nb1 (Or.inl rfl)⟩ dX10_isDigit_35
      · rw [if_neg c10] at h
        refine e_iconst (v := (1 : Int32)) dX10_isDigit_30 (by decide) ?_
        refine e_goto 35 dX10_isDigit_31 (by decide) ?_
        obtain rfl := Option.some.inj h
        exact s_ret rfl ⟨_, rfl, nb1 (Or.inr rfl)⟩ dX10_isDigit_35
abbrev yy_X10_isLetter : mm_Y := (yX10_isLetter, cX10_isLetter, 2, (some .boolean))
theorem dX10_isLetter_0 : decode cX10_isLetter 0 = .ok (.iload_n 1, 1) := by decide +kernel
theorem dX10_isLetter_1 : decode cX10_isLetter 1 = .ok (.aload_n 0, 1) := by decide +kernel
theorem dX10_isLetter_2 : decode cX10_isLetter 2 = .ok (.getfield 98, 3) := by decide +kernel
theorem dX10_isLetter_5 : decode cX10_isLetter 5 = .ok (.if_icmp .ge 29, 3) := by decide +kernel
theorem dX10_isLetter_8 : decode cX10_isLetter 8 = .ok (.aload_n 0, 1) := by decide +kernel
theorem dX10_isLetter_9 : decode cX10_isLetter 9 = .ok (.getfield 7, 3) := by decide +kernel
theorem dX10_isLetter_12 : decode cX10_isLetter 12 = .ok (.iload_n 1, 1) := by decide +kernel
theorem dX10_isLetter_13 : decode cX10_isLetter 13 = .ok (.baload, 1) := by decide +kernel
theorem dX10_isLetter_14 : decode cX10_isLetter 14 = .ok (.bipush 97, 2) := by decide +kernel
theorem dX10_isLetter_16 : decode cX10_isLetter 16 = .ok (.if_icmp .lt 18, 3) := by decide +kernel
theorem dX10_isLetter_19 : decode cX10_isLetter 19 = .ok (.aload_n 0, 1) := by decide +kernel
theorem dX10_isLetter_20 : decode cX10_isLetter 20 = .ok (.getfield 7, 3) := by decide +kernel
theorem dX10_isLetter_23 : decode cX10_isLetter 23 = .ok (.iload_n 1, 1) := by decide +kernel
theorem dX10_isLetter_24 : decode cX10_isLetter 24 = .ok (.baload, 1) := by decide +kernel
theorem dX10_isLetter_25 : decode cX10_isLetter 25 = .ok (.bipush 122, 2) := by decide +kernel
theorem dX10_isLetter_27 : decode cX10_isLetter 27 = .ok (.if_icmp .gt 7, 3) := by decide +kernel
theorem dX10_isLetter_30 : decode cX10_isLetter 30 = .ok (.iconst 1, 1) := by decide +kernel
theorem dX10_isLetter_31 : decode cX10_isLetter 31 = .ok (.goto 4, 3) := by decide +kernel
theorem dX10_isLetter_34 : decode cX10_isLetter 34 = .ok (.iconst 0, 1) := by decide +kernel
theorem dX10_isLetter_35 : decode cX10_isLetter 35 = .ok (.ireturn, 1) := by decide +kernel
def f_X10_isLetter (a0 : Nat) (i1 : Int32) (σ : mm_S) : Option (Int32 × mm_S) :=
    if (σ.1 a0 1) ≤ i1 then
      some ((0 : Int32), σ)
    else
      gd i1 400 <|
      if (σ.1 215 i1.toNatClampNeg) < (97 : Int32) then
        some ((0 : Int32), σ)
      else
        gd i1 400 <|
        if (122 : Int32) < (σ.1 215 i1.toNatClampNeg) then
          some ((0 : Int32), σ)
        else
          some ((1 : Int32), σ)
theorem v_X10_isLetter {g : mm_G} (d : Nat) {a0 : Nat} {i1 : Int32} {σ : mm_S} {res : Int32 × mm_S} (h_a0 : (mm_K a0).1 = 10) (h : f_X10_isLetter a0 i1 σ = some res) : SM g (d + 0) yy_X10_isLetter [.ref a0, .int i1] σ (.int res.1) res.2 := by
  refine s_of (by decide) (Nat.le_of_ble_eq_true rfl) (L := [(0, .ref a0), (1, .int i1)]) rfl ?_
  unfold f_X10_isLetter at h
  refine e_iload_n 1 dX10_isLetter_0 rfl rfl ?_
  refine e_aload_n 0 dX10_isLetter_1 rfl rfl ?_
  refine s_geti dX10_isLetter_2 fl_RX10_98 h_a0 ?_
  refine e_icmp_ge 34 dX10_isLetter_5 (by decide) (fun c6 => ?_) (fun c6 => ?_)
  · rw [if_pos c6] at h
    refine e_iconst (v := (0 : Int32)) dX10_isLetter_34 (by decide) ?_
    obtain rfl := Option.some.inj h
    exact s_ret rfl ⟨_, rfl, nb1 (Or.inl rfl)⟩ dX10_isLetter_35
  · rw [if_neg c6] at h
    refine e_aload_n 0 dX10_isLetter_8 rfl rfl ?_
    refine s_getr dX10_isLetter_9 fl_RX10_7 h_a0 (r_10_0 h_a0).1 ?_
    refine e_iload_n 1 dX10_isLetter_12 rfl rfl ?_
    obtain ⟨q7, h⟩ := gd_some h
    refine s_bald dX10_isLetter_13 (r_10_0 (w := 0) h_a0).2 q7 ?_
    refine e_bipush (v := (97 : Int32)) dX10_isLetter_14 (by decide) ?_
    refine e_icmp_lt 34 dX10_isLetter_16 (by decide) (fun c8 => ?_) (fun c8 => ?_)
    · rw [if_pos c8] at h
      refine e_iconst (v := (0 : Int32)) dX10_isLetter_34 (by decide) ?_
      obtain rfl := Option.some.inj h
      exact s_ret rfl ⟨_, rfl, nb1 (Or.inl rfl)⟩ dX10_isLetter_35
    · rw [if_neg c8] at h
      refine e_aload_n 0 dX10_isLetter_19 rfl rfl ?_
      refine s_getr dX10_isLetter_20 fl_RX10_7 h_a0 (r_10_0 h_a0).1 ?_
      refine e_iload_n 1 dX10_isLetter_23 rfl rfl ?_
      obtain ⟨q9, h⟩ := gd_some h
      refine s_bald dX10_isLetter_24 (r_10_0 (w := 0) h_a0).2 q9 ?_
      refine e_bipush (v := (122 : Int32)) dX10_isLetter_25 (by decide) ?_
      refine e_icmp_gt 34 dX10_isLetter_27 (by decide) (fun c10 => ?_) (fun c10 => ?_)
      · rw [if_pos c10] at h
        refine e_iconst (v := (0 : Int32)) dX10_isLetter_34 (by decide) ?_
        obtain rfl := Option.some.inj h
        exact s_ret rfl ⟨_, rfl, nb1 (Or.inl rfl)⟩ dX10_isLetter_35
      · rw [if_neg c10] at h
        refine e_iconst (v := (1 : Int32)) dX10_isLetter_30 (by decide) ?_
        refine e_goto 35 dX10_isLetter_31 (by decide) ?_
        obtain rfl := Option.some.inj h
        exact s_ret rfl ⟨_, rfl, nb1 (Or.inr rfl)⟩ dX10_isLetter_35
abbrev yy_X10_isWord : mm_Y := (yX10_isWord, cX10_isWord, 6, (some .boolean))
theorem dX10_isWord_0 : decode cX10_isWord 0 = .ok (.aload_n 0, 1) := by decide +kernel
theorem dX10_isWord_1 : decode cX10_isWord 1 = .ok (.invokevirtual 111, 3) := by decide +kernel
theorem dX10_isWord_4 : decode cX10_isWord 4 = .ok (.pop, 1) := by decide +kernel
theorem dX10_isWord_5 : decode cX10_isWord 5 = .ok (.lconst 0, 1) := by decide +kernel
theorem dX10_isWord_6 : decode cX10_isWord 6 = .ok (.lstore_n 3, 1) := by decide +kernel
theorem dX10_isWord_7 : decode cX10_isWord 7 = .ok (.iconst 0, 1) := by decide +kernel
theorem dX10_isWord_8 : decode cX10_isWord 8 = .ok (.istore 5, 2) := by decide +kernel
theorem dX10_isWord_10 : decode cX10_isWord 10 = .ok (.aload_n 0, 1) := by decide +kernel
theorem dX10_isWord_11 : decode cX10_isWord 11 = .ok (.aload_n 0, 1) := by decide +kernel
theorem dX10_isWord_12 : decode cX10_isWord 12 = .ok (.getfield 108, 3) := by decide +kernel
theorem dX10_isWord_15 : decode cX10_isWord 15 = .ok (.iload 5, 2) := by decide +kernel
theorem dX10_isWord_17 : decode cX10_isWord 17 = .ok (.iadd, 1) := by decide +kernel
theorem dX10_isWord_18 : decode cX10_isWord 18 = .ok (.invokevirtual 115, 3) := by decide +kernel
theorem dX10_isWord_21 : decode cX10_isWord 21 = .ok (.ifCond .eq 37, 3) := by decide +kernel
theorem dX10_isWord_24 : decode cX10_isWord 24 = .ok (.iload 5, 2) := by decide +kernel
theorem dX10_isWord_26 : decode cX10_isWord 26 = .ok (.bipush 12, 2) := by decide +kernel
theorem dX10_isWord_28 : decode cX10_isWord 28 = .ok (.if_icmp .ge 24, 3) := by decide +kernel
theorem dX10_isWord_31 : decode cX10_isWord 31 = .ok (.lload_n 3, 1) := by decide +kernel
theorem dX10_isWord_32 : decode cX10_isWord 32 = .ok (.iconst 5, 1) := by decide +kernel
theorem dX10_isWord_33 : decode cX10_isWord 33 = .ok (.lshl, 1) := by decide +kernel
theorem dX10_isWord_34 : decode cX10_isWord 34 = .ok (.aload_n 0, 1) := by decide +kernel
theorem dX10_isWord_35 : decode cX10_isWord 35 = .ok (.getfield 7, 3) := by decide +kernel
theorem dX10_isWord_38 : decode cX10_isWord 38 = .ok (.aload_n 0, 1) := by decide +kernel
theorem dX10_isWord_39 : decode cX10_isWord 39 = .ok (.getfield 108, 3) := by decide +kernel
theorem dX10_isWord_42 : decode cX10_isWord 42 = .ok (.iload 5, 2) := by decide +kernel
theorem dX10_isWord_44 : decode cX10_isWord 44 = .ok (.iadd, 1) := by decide +kernel
theorem dX10_isWord_45 : decode cX10_isWord 45 = .ok (.baload, 1) := by decide +kernel
theorem dX10_isWord_46 : decode cX10_isWord 46 = .ok (.bipush 31, 2) := by decide +kernel
theorem dX10_isWord_48 : decode cX10_isWord 48 = .ok (.iand, 1) := by decide +kernel
theorem dX10_isWord_49 : decode cX10_isWord 49 = .ok (.i2l, 1) := by decide +kernel
theorem dX10_isWord_50 : decode cX10_isWord 50 = .ok (.lor, 1) := by decide +kernel
theorem dX10_isWord_51 : decode cX10_isWord 51 = .ok (.lstore_n 3, 1) := by decide +kernel
theorem dX10_isWord_52 : decode cX10_isWord 52 = .ok (.iinc 5 1, 3) := by decide +kernel
theorem dX10_isWord_55 : decode cX10_isWord 55 = .ok (.goto (-45), 3) := by decide +kernel
theorem dX10_isWord_58 : decode cX10_isWord 58 = .ok (.iload 5, 2) := by decide +kernel
theorem dX10_isWord_60 : decode cX10_isWord 60 = .ok (.ifCond .le 20, 3) := by decide +kernel
theorem dX10_isWord_63 : decode cX10_isWord 63 = .ok (.iload 5, 2) := by decide +kernel
theorem dX10_isWord_65 : decode cX10_isWord 65 = .ok (.bipush 13, 2) := by decide +kernel
theorem dX10_isWord_67 : decode cX10_isWord 67 = .ok (.if_icmp .ge 13, 3) := by decide +kernel
theorem dX10_isWord_70 : decode cX10_isWord 70 = .ok (.lload_n 3, 1) := by decide +kernel
theorem dX10_isWord_71 : decode cX10_isWord 71 = .ok (.lload_n 1, 1) := by decide +kernel
theorem dX10_isWord_72 : decode cX10_isWord 72 = .ok (.lcmp, 1) := by decide +kernel
theorem dX10_isWord_73 : decode cX10_isWord 73 = .ok (.ifCond .ne 7, 3) := by decide +kernel
theorem dX10_isWord_76 : decode cX10_isWord 76 = .ok (.iconst 1, 1) := by decide +kernel
theorem dX10_isWord_77 : decode cX10_isWord 77 = .ok (.goto 4, 3) := by decide +kernel
theorem dX10_isWord_80 : decode cX10_isWord 80 = .ok (.iconst 0, 1) := by decide +kernel
theorem dX10_isWord_81 : decode cX10_isWord 81 = .ok (.ireturn, 1) := by decide +kernel
def f_X10_isWord_10 (a0 : Nat) (j1 : Int64) (j3 : Int64) (i5 : Int32) (σ : mm_S) : Option (Int32 × mm_S) :=
  lp lpN (fun (k10 : (Int64 × Int32) → mm_S → Option (Int32 × mm_S)) (v : Int64 × Int32) (σ : mm_S) =>
    bd (f_X10_isLetter a0 ((σ.1 a0 8) + v.2) σ) fun r3 σ2 =>
    if r3 = 0 then
      if v.2 ≤ 0 then
        some ((0 : Int32), σ2)
      else
        if (13 : Int32) ≤ v.2 then
          some ((0 : Int32), σ2)
        else
          if (lg_cmp v.1 j1) = 0 then
            some ((1 : Int32), σ2)
          else
            some ((0 : Int32), σ2)
    else
      if (12 : Int32) ≤ v.2 then
        lt (v.2 + Int32.ofInt (1)) fun x9 =>
        k10 (v.1, x9) σ2
      else
        gd ((σ2.1 a0 8) + v.2) 400 <|
        lt (((v.1 <<< (((5 : Int32) : Int32).toInt64 &&& 63)) ||| (((σ2.1 215 ((σ2.1 a0 8) + v.2).toNatClampNeg) &&& (31 : Int32)) : Int32).toInt64)) fun x12 =>
        lt (v.2 + Int32.ofInt (1)) fun x14 =>
        k10 (x12, x14) σ2) (j3, i5) σ
theorem v_X10_isWord_10 {g : mm_G} (d : Nat) {a0 : Nat} {j1 : Int64} {j3 : Int64} {i5 : Int32} {σ : mm_S} {res : Int32 × mm_S}  (h_a0 : (mm_K a0).1 = 10) (h : f_X10_isWord_10 a0 j1 j3 i5 σ = some res) : SV g (d + 1) yy_X10_isWord 10 [(0, .ref a0), (1, .long j1), (3, .long j3), (5, .int i5)] [] σ (.int res.1) res.2 := by
  unfold f_X10_isWord_10 at h
  refine lp_ind (P := fun v σ => SV g (d + 1) yy_X10_isWord 10 [(0, .ref a0), (1, .long j1), (3, .long v.1), (5, .int v.2)] [] σ (.int res.1) res.2) (fun k10 H10 v σ h => ?_) _ (j3, i5) σ h
  refine e_aload_n 0 dX10_isWord_10 rfl rfl ?_
  refine e_aload_n 0 dX10_isWord_11 rfl rfl ?_
  refine s_geti dX10_isWord_12 fl_RX10_108 h_a0 ?_
  refine e_iload 3 dX10_isWord_15  rfl ?_
  refine e_iadd dX10_isWord_17 ?_
  obtain ⟨r3, σ2, q1, h⟩ := bd_some h
  refine s_callVi [.int ((σ.1 a0 8) + v.2)] dX10_isWord_18 ml_RX10_115 h_a0 ⟨_, rfl, by decide⟩ rfl (v_X10_isLetter (d + 0) h_a0 q1) (Nat.le_of_ble_eq_true rfl) ?_
  refine e_if_eq 58 dX10_isWord_21 (by decide) (fun c4 => ?_) (fun c4 => ?_)
  · rw [if_pos c4] at h
    refine e_iload 3 dX10_isWord_58  rfl ?_
    refine e_if_le 80 dX10_isWord_60 (by decide) (fun c5 => ?_) (fun c5 => ?_)
    · rw [if_pos c5] at h
      refine e_iconst (v := (0 : Int32)) dX10_isWord_80 (by decide) ?_
      obtain rfl := Option.some.inj h
      exact s_ret rfl ⟨_, rfl, nb1 (Or.inl rfl)⟩ dX10_isWord_81
    · rw [if_neg c5] at h
      refine e_iload 3 dX10_isWord_63  rfl ?_
      refine e_bipush (v := (13 : Int32)) dX10_isWord_65 (by decide) ?_
      refine e_icmp_ge 80 dX10_isWord_67 (by decide) (fun c6 => ?_) (fun c6 => ?_)
      · rw [if_pos c6] at h
        refine e_iconst (v := (0 : Int32)) dX10_isWord_80 (by decide) ?_
        obtain rfl := Option.some.inj h
        exact s_ret rfl ⟨_, rfl, nb1 (Or.inl rfl)⟩ dX10_isWord_81
      · rw [if_neg c6] at h
        refine e_lload_n 2 dX10_isWord_70 rfl rfl ?_
        refine e_lload_n 1 dX10_isWord_71 rfl rfl ?_
        refine e_lcmp dX10_isWord_72 ?_
        refine e_if_ne 80 dX10_isWord_73 (by decide) (fun c7 => ?_) (fun c7 => ?_)
        · rw [if_neg c7] at h
          refine e_iconst (v := (0 : Int32)) dX10_isWord_80 (by decide) ?_
          obtain rfl := Option.some.inj h
          exact s_ret rfl ⟨_, rfl, nb1 (Or.inl rfl)⟩ dX10_isWord_81
        · rw [if_pos c7] at h
          refine e_iconst (v := (1 : Int32)) dX10_isWord_76 (by decide) ?_
          refine e_goto 81 dX10_isWord_77 (by decide) ?_
          obtain rfl := Option.some.inj h
          exact s_ret rfl ⟨_, rfl, nb1 (Or.inr rfl)⟩ dX10_isWord_81
  · rw [if_neg c4] at h
    refine e_iload 3 dX10_isWord_24  rfl ?_
    refine e_bipush (v := (12 : Int32)) dX10_isWord_26 (by decide) ?_
    refine e_icmp_ge 52 dX10_isWord_28 (by decide) (fun c8 => ?_) (fun c8 => ?_)
    · rw [if_pos c8] at h
      obtain ⟨x9, q10, h⟩ := lt_some h
      refine e_iinc (v := x9) (L' := [(0, .ref a0), (1, .long j1), (3, .long v.1), (5, .int x9)]) 3 dX10_isWord_52 rfl q10.symm (by decide) rfl ?_
      refine e_goto 10 dX10_isWord_55 (by decide) ?_
      refine s_pick (L' := [(0, .ref a0), (1, .long j1), (3, .long v.1), (5, .int x9)]) [0, 1, 2, 3] rfl ?_
      exact H10 (v.1, x9) σ2 h
    · rw [if_neg c8] at h
      refine e_lload_n 2 dX10_isWord_31 rfl rfl ?_
      refine e_iconst (v := (5 : Int32)) dX10_isWord_32 (by decide) ?_
      refine e_lshl dX10_isWord_33 ?_
      refine e_aload_n 0 dX10_isWord_34 rfl rfl ?_
      refine s_getr dX10_isWord_35 fl_RX10_7 h_a0 (r_10_0 h_a0).1 ?_
      refine e_aload_n 0 dX10_isWord_38 rfl rfl ?_
      refine s_geti dX10_isWord_39 fl_RX10_108 h_a0 ?_
      refine e_iload 3 dX10_isWord_42  rfl ?_
      refine e_iadd dX10_isWord_44 ?_
      obtain ⟨q11, h⟩ := gd_some h
      refine s_bald dX10_isWord_45 (r_10_0 (w := 0) h_a0).2 q11 ?_
      refine e_bipush (v := (31 : Int32)) dX10_isWord_46 (by decide) ?_
      refine e_iand dX10_isWord_48 ?_
      refine e_i2l dX10_isWord_49 ?_
      refine e_lor dX10_isWord_50 ?_
      obtain ⟨x12, q13, h⟩ := lt_some h
      refine s_nml q13 ?_
      refine e_lstore_n (L' := [(0, .ref a0), (1, .long j1), (3, .long x12), (5, .int v.2)]) dX10_isWord_51 rfl (by decide) rfl ?_
      obtain ⟨x14, q15, h⟩ := lt_some h
      refine e_iinc (v := x14) (L' := [(0, .ref a0), (1, .long j1), (3, .long x12), (5, .int x14)]) 3 dX10_isWord_52 rfl q15.symm (by decide) rfl ?_
      refine e_goto 10 dX10_isWord_55 (by decide) ?_
      refine s_pick (L' := [(0, .ref a0), (1, .long j1), (3, .long x12), (5, .int x14)]) [0, 1, 2, 3] rfl ?_
      exact H10 (x12, x14) σ2 h
def f_X10_isWord (a0 : Nat) (j1 : Int64) (σ : mm_S) : Option (Int32 × mm_S) :=
    bd (f_X10_see a0 σ) fun r21 σ20 =>
    f_X10_isWord_10 a0 j1 (0 : Int64) (0 : Int32) σ20
theorem v_X10_isWord {g : mm_G} (d : Nat) {a0 : Nat} {j1 : Int64} {σ : mm_S} {res : Int32 × mm_S} (h_a0 : (mm_K a0).1 = 10) (h : f_X10_isWord a0 j1 σ = some res) : SM g (d + 1) yy_X10_isWord [.ref a0, .long j1] σ (.int res.1) res.2 := by
  refine s_of (by decide) (Nat.le_of_ble_eq_true rfl) (L := [(0, .ref a0), (1, .long j1)]) rfl ?_
  unfold f_X10_isWord at h
  refine e_aload_n 0 dX10_isWord_0 rfl rfl ?_
  obtain ⟨r21, σ20, q19, h⟩ := bd_some h
  refine s_callVi [] dX10_isWord_1 ml_RX10_111 h_a0 ⟨_, rfl, by decide⟩ rfl (v_X10_see (d + 0) h_a0 q19) (Nat.le_of_ble_eq_true rfl) ?_
  refine e_pop dX10_isWord_4 rfl ?_
  refine e_lconst (v := (0 : Int64)) dX10_isWord_5 (by decide) ?_
  refine e_lstore_n (L' := [(0, .ref a0), (1, .long j1), (3, .long (0 : Int64))]) dX10_isWord_6 rfl (by decide) rfl ?_
  refine e_iconst (v := (0 : Int32)) dX10_isWord_7 (by decide) ?_
  refine e_istore (L' := [(0, .ref a0), (1, .long j1), (3, .long (0 : Int64)), (5, .int (0 : Int32))]) dX10_isWord_8  (by decide) rfl ?_
  refine s_pick (L' := [(0, .ref a0), (1, .long j1), (3, .long (0 : Int64)), (5, .int (0 : Int32))]) [0, 1, 2, 3] rfl ?_
  exact v_X10_isWord_10 d h_a0 h
