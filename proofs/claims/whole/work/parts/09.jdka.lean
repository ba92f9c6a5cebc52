abbrev yy_J7_fill_53178 : mm_Y := (yJ7_fill_53178, cJ7_fill_53178, 4, none)
theorem dJ7_fill_53178_0 : decode cJ7_fill_53178 0 = .ok (.iconst 0, 1) := by decide +kernel
theorem dJ7_fill_53178_1 : decode cJ7_fill_53178 1 = .ok (.istore_n 2, 1) := by decide +kernel
theorem dJ7_fill_53178_2 : decode cJ7_fill_53178 2 = .ok (.aload_n 0, 1) := by decide +kernel
theorem dJ7_fill_53178_3 : decode cJ7_fill_53178 3 = .ok (.arraylength, 1) := by decide +kernel
theorem dJ7_fill_53178_4 : decode cJ7_fill_53178 4 = .ok (.istore_n 3, 1) := by decide +kernel
theorem dJ7_fill_53178_5 : decode cJ7_fill_53178 5 = .ok (.iload_n 2, 1) := by decide +kernel
theorem dJ7_fill_53178_6 : decode cJ7_fill_53178 6 = .ok (.iload_n 3, 1) := by decide +kernel
theorem dJ7_fill_53178_7 : decode cJ7_fill_53178 7 = .ok (.if_icmp .ge 13, 3) := by decide +kernel
theorem dJ7_fill_53178_10 : decode cJ7_fill_53178 10 = .ok (.aload_n 0, 1) := by decide +kernel
theorem dJ7_fill_53178_11 : decode cJ7_fill_53178 11 = .ok (.iload_n 2, 1) := by decide +kernel
theorem dJ7_fill_53178_12 : decode cJ7_fill_53178 12 = .ok (.iload_n 1, 1) := by decide +kernel
theorem dJ7_fill_53178_13 : decode cJ7_fill_53178 13 = .ok (.iastore, 1) := by decide +kernel
theorem dJ7_fill_53178_14 : decode cJ7_fill_53178 14 = .ok (.iinc 2 1, 3) := by decide +kernel
theorem dJ7_fill_53178_17 : decode cJ7_fill_53178 17 = .ok (.goto (-12), 3) := by decide +kernel
theorem dJ7_fill_53178_20 : decode cJ7_fill_53178 20 = .ok (.return_, 1) := by decide +kernel
def f_J7_fill_53178_5 (a0 : Nat) (i1 : Int32) (i2 : Int32) (i3 : Int32) (σ : mm_S) : Option (mm_S) :=
  lp lpN (fun (k5 : (Int32) → mm_S → Option (mm_S)) (v : Int32) (σ : mm_S) =>
    if i3 ≤ v then
      some σ
    else
      gd v (mm_K a0).2 <|
      lt (su_i σ a0 v.toNatClampNeg i1) fun σ3 =>
      lt (v + Int32.ofInt (1)) fun x5 =>
      k5 x5 σ3) i2 σ
theorem v_J7_fill_53178_5 {g : mm_G} (d : Nat) {a0 : Nat} {i1 : Int32} {i2 : Int32} {i3 : Int32} {σ : mm_S} {res : mm_S}  (h_a0 : (mm_K a0).1 = 12) (h : f_J7_fill_53178_5 a0 i1 i2 i3 σ = some res) : SV g (d + 0) yy_J7_fill_53178 5 [(0, .ref a0), (1, .int i1), (2, .int i2), (3, .int i3)] [] σ .null res := by
  unfold f_J7_fill_53178_5 at h
  refine lp_ind (P := fun v σ => SV g (d + 0) yy_J7_fill_53178 5 [(0, .ref a0), (1, .int i1), (2, .int v), (3, .int i3)] [] σ .null res) (fun k5 H5 v σ h => ?_) _ i2 σ h
  refine e_iload_n 2 dJ7_fill_53178_5 rfl rfl ?_
  refine e_iload_n 3 dJ7_fill_53178_6 rfl rfl ?_
  refine e_icmp_ge 20 dJ7_fill_53178_7 (by decide) (fun c1 => ?_) (fun c1 => ?_)
  · rw [if_pos c1] at h
    obtain rfl := Option.some.inj h
    exact s_ret rfl rfl dJ7_fill_53178_20
  · rw [if_neg c1] at h
    refine e_aload_n 0 dJ7_fill_53178_10 rfl rfl ?_
    refine e_iload_n 2 dJ7_fill_53178_11 rfl rfl ?_
    refine e_iload_n 1 dJ7_fill_53178_12 rfl rfl ?_
    obtain ⟨q2, h⟩ := gd_some h
    refine s_iast dJ7_fill_53178_13 (ka_2 h_a0) q2 ?_
    obtain ⟨σ3, q4, h⟩ := lt_some h
    refine s_nms q4 ?_
    obtain ⟨x5, q6, h⟩ := lt_some h
    refine e_iinc (v := x5) (L' := [(0, .ref a0), (1, .int i1), (2, .int x5), (3, .int i3)]) 2 dJ7_fill_53178_14 rfl q6.symm (by decide) rfl ?_
    refine e_goto 5 dJ7_fill_53178_17 (by decide) ?_
    refine s_pick (L' := [(0, .ref a0), (1, .int i1), (2, .int x5), (3, .int i3)]) [0, 1, 2, 3] rfl ?_
    exact H5 x5 σ3 h
def f_J7_fill_53178 (a0 : Nat) (i1 : Int32) (σ : mm_S) : Option (mm_S) :=
    lt ((Int32.ofNat (mm_K a0).2)) fun x9 =>
    f_J7_fill_53178_5 a0 i1 (0 : Int32) x9 σ
theorem v_J7_fill_53178 {g : mm_G} (d : Nat) {a0 : Nat} {i1 : Int32} {σ : mm_S} {res : mm_S} (h_a0 : (mm_K a0).1 = 12) (h : f_J7_fill_53178 a0 i1 σ = some res) : SM g (d + 0) yy_J7_fill_53178 [.ref a0, .int i1] σ .null res := by
  refine s_of (by decide) (Nat.le_of_ble_eq_true rfl) (L := [(0, .ref a0), (1, .int i1)]) rfl ?_
  unfold f_J7_fill_53178 at h
  refine e_iconst (v := (0 : Int32)) dJ7_fill_53178_0 (by decide) ?_
  refine e_istore_n (L' := [(0, .ref a0), (1, .int i1), (2, .int (0 : Int32))]) dJ7_fill_53178_1 rfl (by decide) rfl ?_
  refine e_aload_n 0 dJ7_fill_53178_2 rfl rfl ?_
  refine s_alen dJ7_fill_53178_3 (ka_2 h_a0) ⟨by decide, by decide⟩ rfl ?_
  obtain ⟨x9, q10, h⟩ := lt_some h
  refine s_nmi q10 ?_
  refine e_istore_n (L' := [(0, .ref a0), (1, .int i1), (2, .int (0 : Int32)), (3, .int x9)]) dJ7_fill_53178_4 rfl (by decide) rfl ?_
  refine s_pick (L' := [(0, .ref a0), (1, .int i1), (2, .int (0 : Int32)), (3, .int x9)]) [0, 1, 2, 3] rfl ?_
  exact v_J7_fill_53178_5 d h_a0 h
abbrev yy_J6_bitCount_0f7a4 : mm_Y := (yJ6_bitCount_0f7a4, cJ6_bitCount_0f7a4, 1, (some .int))
theorem dJ6_bitCount_0f7a4_0 : decode cJ6_bitCount_0f7a4 0 = .ok (.iload_n 0, 1) := by decide +kernel
theorem dJ6_bitCount_0f7a4_1 : decode cJ6_bitCount_0f7a4 1 = .ok (.iload_n 0, 1) := by decide +kernel
theorem dJ6_bitCount_0f7a4_2 : decode cJ6_bitCount_0f7a4 2 = .ok (.iconst 1, 1) := by decide +kernel
theorem dJ6_bitCount_0f7a4_3 : decode cJ6_bitCount_0f7a4 3 = .ok (.iushr, 1) := by decide +kernel
theorem dJ6_bitCount_0f7a4_4 : decode cJ6_bitCount_0f7a4 4 = .ok (.ldc_w 265, 3) := by decide +kernel
theorem dJ6_bitCount_0f7a4_7 : decode cJ6_bitCount_0f7a4 7 = .ok (.iand, 1) := by decide +kernel
theorem dJ6_bitCount_0f7a4_8 : decode cJ6_bitCount_0f7a4 8 = .ok (.isub, 1) := by decide +kernel
theorem dJ6_bitCount_0f7a4_9 : decode cJ6_bitCount_0f7a4 9 = .ok (.istore_n 0, 1) := by decide +kernel
theorem dJ6_bitCount_0f7a4_10 : decode cJ6_bitCount_0f7a4 10 = .ok (.iload_n 0, 1) := by decide +kernel
theorem dJ6_bitCount_0f7a4_11 : decode cJ6_bitCount_0f7a4 11 = .ok (.ldc_w 266, 3) := by decide +kernel
theorem dJ6_bitCount_0f7a4_14 : decode cJ6_bitCount_0f7a4 14 = .ok (.iand, 1) := by decide +kernel
theorem dJ6_bitCount_0f7a4_15 : decode cJ6_bitCount_0f7a4 15 = .ok (.iload_n 0, 1) := by decide +kernel
theorem dJ6_bitCount_0f7a4_16 : decode cJ6_bitCount_0f7a4 16 = .ok (.iconst 2, 1) := by decide +kernel
theorem dJ6_bitCount_0f7a4_17 : decode cJ6_bitCount_0f7a4 17 = .ok (.iushr, 1) := by decide +kernel
theorem dJ6_bitCount_0f7a4_18 : decode cJ6_bitCount_0f7a4 18 = .ok (.ldc_w 266, 3) := by decide +kernel
theorem dJ6_bitCount_0f7a4_21 : decode cJ6_bitCount_0f7a4 21 = .ok (.iand, 1) := by decide +kernel
theorem dJ6_bitCount_0f7a4_22 : decode cJ6_bitCount_0f7a4 22 = .ok (.iadd, 1) := by decide +kernel
theorem dJ6_bitCount_0f7a4_23 : decode cJ6_bitCount_0f7a4 23 = .ok (.istore_n 0, 1) := by decide +kernel
theorem dJ6_bitCount_0f7a4_24 : decode cJ6_bitCount_0f7a4 24 = .ok (.iload_n 0, 1) := by decide +kernel
theorem dJ6_bitCount_0f7a4_25 : decode cJ6_bitCount_0f7a4 25 = .ok (.iload_n 0, 1) := by decide +kernel
theorem dJ6_bitCount_0f7a4_26 : decode cJ6_bitCount_0f7a4 26 = .ok (.iconst 4, 1) := by decide +kernel
theorem dJ6_bitCount_0f7a4_27 : decode cJ6_bitCount_0f7a4 27 = .ok (.iushr, 1) := by decide +kernel
theorem dJ6_bitCount_0f7a4_28 : decode cJ6_bitCount_0f7a4 28 = .ok (.iadd, 1) := by decide +kernel
theorem dJ6_bitCount_0f7a4_29 : decode cJ6_bitCount_0f7a4 29 = .ok (.ldc_w 267, 3) := by decide +kernel
theorem dJ6_bitCount_0f7a4_32 : decode cJ6_bitCount_0f7a4 32 = .ok (.iand, 1) := by decide +kernel
theorem dJ6_bitCount_0f7a4_33 : decode cJ6_bitCount_0f7a4 33 = .ok (.istore_n 0, 1) := by decide +kernel
theorem dJ6_bitCount_0f7a4_34 : decode cJ6_bitCount_0f7a4 34 = .ok (.iload_n 0, 1) := by decide +kernel
theorem dJ6_bitCount_0f7a4_35 : decode cJ6_bitCount_0f7a4 35 = .ok (.iload_n 0, 1) := by decide +kernel
theorem dJ6_bitCount_0f7a4_36 : decode cJ6_bitCount_0f7a4 36 = .ok (.bipush 8, 2) := by decide +kernel
theorem dJ6_bitCount_0f7a4_38 : decode cJ6_bitCount_0f7a4 38 = .ok (.iushr, 1) := by decide +kernel
theorem dJ6_bitCount_0f7a4_39 : decode cJ6_bitCount_0f7a4 39 = .ok (.iadd, 1) := by decide +kernel
theorem dJ6_bitCount_0f7a4_40 : decode cJ6_bitCount_0f7a4 40 = .ok (.istore_n 0, 1) := by decide +kernel
theorem dJ6_bitCount_0f7a4_41 : decode cJ6_bitCount_0f7a4 41 = .ok (.iload_n 0, 1) := by decide +kernel
theorem dJ6_bitCount_0f7a4_42 : decode cJ6_bitCount_0f7a4 42 = .ok (.iload_n 0, 1) := by decide +kernel
theorem dJ6_bitCount_0f7a4_43 : decode cJ6_bitCount_0f7a4 43 = .ok (.bipush 16, 2) := by decide +kernel
theorem dJ6_bitCount_0f7a4_45 : decode cJ6_bitCount_0f7a4 45 = .ok (.iushr, 1) := by decide +kernel
theorem dJ6_bitCount_0f7a4_46 : decode cJ6_bitCount_0f7a4 46 = .ok (.iadd, 1) := by decide +kernel
theorem dJ6_bitCount_0f7a4_47 : decode cJ6_bitCount_0f7a4 47 = .ok (.istore_n 0, 1) := by decide +kernel
theorem dJ6_bitCount_0f7a4_48 : decode cJ6_bitCount_0f7a4 48 = .ok (.iload_n 0, 1) := by decide +kernel
theorem dJ6_bitCount_0f7a4_49 : decode cJ6_bitCount_0f7a4 49 = .ok (.bipush 63, 2) := by decide +kernel
theorem dJ6_bitCount_0f7a4_51 : decode cJ6_bitCount_0f7a4 51 = .ok (.iand, 1) := by decide +kernel
theorem dJ6_bitCount_0f7a4_52 : decode cJ6_bitCount_0f7a4 52 = .ok (.ireturn, 1) := by decide +kernel
def f_J6_bitCount_0f7a4 (i0 : Int32) (σ : mm_S) : Option (Int32 × mm_S) :=
    lt ((i0 - (((i0 : Int32).toUInt32 >>> (((1 : Int32) : Int32).toUInt32 &&& Int32.toUInt32 31)).toInt32 &&& (1431655765 : Int32)))) fun x11 =>
    lt (((x11 &&& (858993459 : Int32)) + (((x11 : Int32).toUInt32 >>> (((2 : Int32) : Int32).toUInt32 &&& Int32.toUInt32 31)).toInt32 &&& (858993459 : Int32)))) fun x13 =>
    lt (((x13 + ((x13 : Int32).toUInt32 >>> (((4 : Int32) : Int32).toUInt32 &&& Int32.toUInt32 31)).toInt32) &&& (252645135 : Int32))) fun x15 =>
    lt ((x15 + ((x15 : Int32).toUInt32 >>> (((8 : Int32) : Int32).toUInt32 &&& Int32.toUInt32 31)).toInt32)) fun x17 =>
    lt ((x17 + ((x17 : Int32).toUInt32 >>> (((16 : Int32) : Int32).toUInt32 &&& Int32.toUInt32 31)).toInt32)) fun x19 =>
    some ((x19 &&& (63 : Int32)), σ)
theorem v_J6_bitCount_0f7a4 {g : mm_G} (d : Nat) {i0 : Int32} {σ : mm_S} {res : Int32 × mm_S}  (h : f_J6_bitCount_0f7a4 i0 σ = some res) : SM g (d + 0) yy_J6_bitCount_0f7a4 [.int i0] σ (.int res.1) res.2 := by
  refine s_of (by decide) (Nat.le_of_ble_eq_true rfl) (L := [(0, .int i0)]) rfl ?_
  unfold f_J6_bitCount_0f7a4 at h
  refine e_iload_n 0 dJ6_bitCount_0f7a4_0 rfl rfl ?_
  refine e_iload_n 0 dJ6_bitCount_0f7a4_1 rfl rfl ?_
  refine e_iconst (v := (1 : Int32)) dJ6_bitCount_0f7a4_2 (by decide) ?_
  refine e_iushr dJ6_bitCount_0f7a4_3 rfl ?_
  refine e_ldcw dJ6_bitCount_0f7a4_4 co_RJ6_265 ?_
  refine e_iand dJ6_bitCount_0f7a4_7 ?_
  refine e_isub dJ6_bitCount_0f7a4_8 ?_
  obtain ⟨x11, q12, h⟩ := lt_some h
  refine s_nmi q12 ?_
  refine e_istore_n (L' := [(0, .int x11)]) dJ6_bitCount_0f7a4_9 rfl (by decide) rfl ?_
  refine e_iload_n 0 dJ6_bitCount_0f7a4_10 rfl rfl ?_
  refine e_ldcw dJ6_bitCount_0f7a4_11 co_RJ6_266 ?_
  refine e_iand dJ6_bitCount_0f7a4_14 ?_
  refine e_iload_n 0 dJ6_bitCount_0f7a4_15 rfl rfl ?_
  refine e_iconst (v := (2 : Int32)) dJ6_bitCount_0f7a4_16 (by decide) ?_
  refine e_iushr dJ6_bitCount_0f7a4_17 rfl ?_
  refine e_ldcw dJ6_bitCount_0f7a4_18 co_RJ6_266 ?_
  refine e_iand dJ6_bitCount_0f7a4_21 ?_
  refine e_iadd dJ6_bitCount_0f7a4_22 ?_
  obtain ⟨x13, q14, h⟩ := lt_some h
  refine s_nmi q14 ?_
  refine e_istore_n (L' := [(0, .int x13)]) dJ6_bitCount_0f7a4_23 rfl (by decide) rfl ?_
  refine e_iload_n 0 dJ6_bitCount_0f7a4_24 rfl rfl ?_
  refine e_iload_n 0 dJ6_bitCount_0f7a4_25 rfl rfl ?_
  refine e_iconst (v := (4 : Int32)) dJ6_bitCount_0f7a4_26 (by decide) ?_
  refine e_iushr dJ6_bitCount_0f7a4_27 rfl ?_
  refine e_iadd dJ6_bitCount_0f7a4_28 ?_
  refine e_ldcw dJ6_bitCount_0f7a4_29 co_RJ6_267 ?_
  refine e_iand dJ6_bitCount_0f7a4_32 ?_
  obtain ⟨x15, q16, h⟩ := lt_some h
  refine s_nmi q16 ?_
  refine e_istore_n (L' := [(0, .int x15)]) dJ6_bitCount_0f7a4_33 rfl (by decide) rfl ?_
  refine e_iload_n 0 dJ6_bitCount_0f7a4_34 rfl rfl ?_
  refine e_iload_n 0 dJ6_bitCount_0f7a4_35 rfl rfl ?_
  refine e_bipush (v := (8 : Int32)) dJ6_bitCount_0f7a4_36 (by decide) ?_
  refine e_iushr dJ6_bitCount_0f7a4_38 rfl ?_
  refine e_iadd dJ6_bitCount_0f7a4_39 ?_
  obtain ⟨x17, q18, h⟩ := lt_some h
  refine s_nmi q18 ?_
  refine e_istore_n (L' := [(0, .int x17)]) dJ6_bitCount_0f7a4_40 rfl (by decide) rfl ?_
  refine e_iload_n 0 dJ6_bitCount_0f7a4_41 rfl rfl ?_
  refine e_iload_n 0 dJ6_bitCount_0f7a4_42 rfl rfl ?_
  refine e_bipush (v := (16 : Int32)) dJ6_bitCount_0f7a4_43 (by decide) ?_
  refine e_iushr dJ6_bitCount_0f7a4_45 rfl ?_
  refine e_iadd dJ6_bitCount_0f7a4_46 ?_
  obtain ⟨x19, q20, h⟩ := lt_some h
  refine s_nmi q20 ?_
  refine e_istore_n (L' := [(0, .int x19)]) dJ6_bitCount_0f7a4_47 rfl (by decide) rfl ?_
  refine e_iload_n 0 dJ6_bitCount_0f7a4_48 rfl rfl ?_
  refine e_bipush (v := (63 : Int32)) dJ6_bitCount_0f7a4_49 (by decide) ?_
  refine e_iand dJ6_bitCount_0f7a4_51 ?_
  obtain rfl := Option.some.inj h
  exact s_ret rfl ⟨_, rfl, rfl⟩ dJ6_bitCount_0f7a4_52
abbrev yy_J6_numberOfTrailingZeros_0f7a4 : mm_Y := (yJ6_numberOfTrailingZeros_0f7a4, cJ6_numberOfTrailingZeros_0f7a4, 2, (some .int))
theorem dJ6_numberOfTrailingZeros_0f7a4_0 : decode cJ6_numberOfTrailingZeros_0f7a4 0 = .ok (.iload_n 0, 1) := by decide +kernel
theorem dJ6_numberOfTrailingZeros_0f7a4_1 : decode cJ6_numberOfTrailingZeros_0f7a4 1 = .ok (.iconst (-1), 1) := by decide +kernel
theorem dJ6_numberOfTrailingZeros_0f7a4_2 : decode cJ6_numberOfTrailingZeros_0f7a4 2 = .ok (.ixor, 1) := by decide +kernel
theorem dJ6_numberOfTrailingZeros_0f7a4_3 : decode cJ6_numberOfTrailingZeros_0f7a4 3 = .ok (.iload_n 0, 1) := by decide +kernel
theorem dJ6_numberOfTrailingZeros_0f7a4_4 : decode cJ6_numberOfTrailingZeros_0f7a4 4 = .ok (.iconst 1, 1) := by decide +kernel
theorem dJ6_numberOfTrailingZeros_0f7a4_5 : decode cJ6_numberOfTrailingZeros_0f7a4 5 = .ok (.isub, 1) := by decide +kernel
theorem dJ6_numberOfTrailingZeros_0f7a4_6 : decode cJ6_numberOfTrailingZeros_0f7a4 6 = .ok (.iand, 1) := by decide +kernel
theorem dJ6_numberOfTrailingZeros_0f7a4_7 : decode cJ6_numberOfTrailingZeros_0f7a4 7 = .ok (.istore_n 0, 1) := by decide +kernel
theorem dJ6_numberOfTrailingZeros_0f7a4_8 : decode cJ6_numberOfTrailingZeros_0f7a4 8 = .ok (.iload_n 0, 1) := by decide +kernel
theorem dJ6_numberOfTrailingZeros_0f7a4_9 : decode cJ6_numberOfTrailingZeros_0f7a4 9 = .ok (.ifCond .gt 8, 3) := by decide +kernel
theorem dJ6_numberOfTrailingZeros_0f7a4_12 : decode cJ6_numberOfTrailingZeros_0f7a4 12 = .ok (.iload_n 0, 1) := by decide +kernel
theorem dJ6_numberOfTrailingZeros_0f7a4_13 : decode cJ6_numberOfTrailingZeros_0f7a4 13 = .ok (.bipush 32, 2) := by decide +kernel
theorem dJ6_numberOfTrailingZeros_0f7a4_15 : decode cJ6_numberOfTrailingZeros_0f7a4 15 = .ok (.iand, 1) := by decide +kernel
theorem dJ6_numberOfTrailingZeros_0f7a4_16 : decode cJ6_numberOfTrailingZeros_0f7a4 16 = .ok (.ireturn, 1) := by decide +kernel
theorem dJ6_numberOfTrailingZeros_0f7a4_17 : decode cJ6_numberOfTrailingZeros_0f7a4 17 = .ok (.iconst 1, 1) := by decide +kernel
theorem dJ6_numberOfTrailingZeros_0f7a4_18 : decode cJ6_numberOfTrailingZeros_0f7a4 18 = .ok (.istore_n 1, 1) := by decide +kernel
theorem dJ6_numberOfTrailingZeros_0f7a4_19 : decode cJ6_numberOfTrailingZeros_0f7a4 19 = .ok (.iload_n 0, 1) := by decide +kernel
theorem dJ6_numberOfTrailingZeros_0f7a4_20 : decode cJ6_numberOfTrailingZeros_0f7a4 20 = .ok (.ldc_w 264, 3) := by decide +kernel
theorem dJ6_numberOfTrailingZeros_0f7a4_23 : decode cJ6_numberOfTrailingZeros_0f7a4 23 = .ok (.if_icmp .le 11, 3) := by decide +kernel
theorem dJ6_numberOfTrailingZeros_0f7a4_26 : decode cJ6_numberOfTrailingZeros_0f7a4 26 = .ok (.iinc 1 16, 3) := by decide +kernel
theorem dJ6_numberOfTrailingZeros_0f7a4_29 : decode cJ6_numberOfTrailingZeros_0f7a4 29 = .ok (.iload_n 0, 1) := by decide +kernel
theorem dJ6_numberOfTrailingZeros_0f7a4_30 : decode cJ6_numberOfTrailingZeros_0f7a4 30 = .ok (.bipush 16, 2) := by decide +kernel
theorem dJ6_numberOfTrailingZeros_0f7a4_32 : decode cJ6_numberOfTrailingZeros_0f7a4 32 = .ok (.iushr, 1) := by decide +kernel
theorem dJ6_numberOfTrailingZeros_0f7a4_33 : decode cJ6_numberOfTrailingZeros_0f7a4 33 = .ok (.istore_n 0, 1) := by decide +kernel
theorem dJ6_numberOfTrailingZeros_0f7a4_34 : decode cJ6_numberOfTrailingZeros_0f7a4 34 = .ok (.iload_n 0, 1) := by decide +kernel
theorem dJ6_numberOfTrailingZeros_0f7a4_35 : decode cJ6_numberOfTrailingZeros_0f7a4 35 = .ok (.sipush 256, 3) := by decide +kernel
theorem dJ6_numberOfTrailingZeros_0f7a4_38 : decode cJ6_numberOfTrailingZeros_0f7a4 38 = .ok (.if_icmp .le 11, 3) := by decide +kernel
theorem dJ6_numberOfTrailingZeros_0f7a4_41 : decode cJ6_numberOfTrailingZeros_0f7a4 41 = .ok (.iinc 1 8, 3) := by decide +kernel
theorem dJ6_numberOfTrailingZeros_0f7a4_44 : decode cJ6_numberOfTrailingZeros_0f7a4 44 = .ok (.iload_n 0, 1) := by decide +kernel
theorem dJ6_numberOfTrailingZeros_0f7a4_45 : decode cJ6_numberOfTrailingZeros_0f7a4 45 = .ok (.bipush 8, 2) := by decide +kernel
theorem dJ6_numberOfTrailingZeros_0f7a4_47 : decode cJ6_numberOfTrailingZeros_0f7a4 47 = .ok (.iushr, 1) := by decide +kernel
theorem dJ6_numberOfTrailingZeros_0f7a4_48 : decode cJ6_numberOfTrailingZeros_0f7a4 48 = .ok (.istore_n 0, 1) := by decide +kernel
theorem dJ6_numberOfTrailingZeros_0f7a4_49 : decode cJ6_numberOfTrailingZeros_0f7a4 49 = .ok (.iload_n 0, 1) := by decide +kernel
theorem dJ6_numberOfTrailingZeros_0f7a4_50 : decode cJ6_numberOfTrailingZeros_0f7a4 50 = .ok (.bipush 16, 2) := by decide +kernel
theorem dJ6_numberOfTrailingZeros_0f7a4_52 : decode cJ6_numberOfTrailingZeros_0f7a4 52 = .ok (.if_icmp .le 10, 3) := by decide +kernel
theorem dJ6_numberOfTrailingZeros_0f7a4_55 : decode cJ6_numberOfTrailingZeros_0f7a4 55 = .ok (.iinc 1 4, 3) := by decide +kernel
theorem dJ6_numberOfTrailingZeros_0f7a4_58 : decode cJ6_numberOfTrailingZeros_0f7a4 58 = .ok (.iload_n 0, 1) := by decide +kernel
theorem dJ6_numberOfTrailingZeros_0f7a4_59 : decode cJ6_numberOfTrailingZeros_0f7a4 59 = .ok (.iconst 4, 1) := by decide +kernel
theorem dJ6_numberOfTrailingZeros_0f7a4_60 : decode cJ6_numberOfTrailingZeros_0f7a4 60 = .ok (.iushr, 1) := by decide +kernel
theorem dJ6_numberOfTrailingZeros_0f7a4_61 : decode cJ6_numberOfTrailingZeros_0f7a4 61 = .ok (.istore_n 0, 1) := by decide +kernel
theorem dJ6_numberOfTrailingZeros_0f7a4_62 : decode cJ6_numberOfTrailingZeros_0f7a4 62 = .ok (.iload_n 0, 1) := by decide +kernel
theorem dJ6_numberOfTrailingZeros_0f7a4_63 : decode cJ6_numberOfTrailingZeros_0f7a4 63 = .ok (.iconst 4, 1) := by decide +kernel
theorem dJ6_numberOfTrailingZeros_0f7a4_64 : decode cJ6_numberOfTrailingZeros_0f7a4 64 = .ok (.if_icmp .le 10, 3) := by decide +kernel
theorem dJ6_numberOfTrailingZeros_0f7a4_67 : decode cJ6_numberOfTrailingZeros_0f7a4 67 = .ok (.iinc 1 2, 3) := by decide +kernel
theorem dJ6_numberOfTrailingZeros_0f7a4_70 : decode cJ6_numberOfTrailingZeros_0f7a4 70 = .ok (.iload_n 0, 1) := by decide +kernel
theorem dJ6_numberOfTrailingZeros_0f7a4_71 : decode cJ6_numberOfTrailingZeros_0f7a4 71 = .ok (.iconst 2, 1) := by decide +kernel
theorem dJ6_numberOfTrailingZeros_0f7a4_72 : decode cJ6_numberOfTrailingZeros_0f7a4 72 = .ok (.iushr, 1) := by decide +kernel
theorem dJ6_numberOfTrailingZeros_0f7a4_73 : decode cJ6_numberOfTrailingZeros_0f7a4 73 = .ok (.istore_n 0, 1) := by decide +kernel
theorem dJ6_numberOfTrailingZeros_0f7a4_74 : decode cJ6_numberOfTrailingZeros_0f7a4 74 = .ok (.iload_n 1, 1) := by decide +kernel
theorem dJ6_numberOfTrailingZeros_0f7a4_75 : decode cJ6_numberOfTrailingZeros_0f7a4 75 = .ok (.iload_n 0, 1) := by decide +kernel
theorem dJ6_numberOfTrailingZeros_0f7a4_76 : decode cJ6_numberOfTrailingZeros_0f7a4 76 = .ok (.iconst 1, 1) := by decide +kernel
theorem dJ6_numberOfTrailingZeros_0f7a4_77 : decode cJ6_numberOfTrailingZeros_0f7a4 77 = .ok (.iushr, 1) := by decide +kernel
theorem dJ6_numberOfTrailingZeros_0f7a4_78 : decode cJ6_numberOfTrailingZeros_0f7a4 78 = .ok (.iadd, 1) := by decide +kernel
theorem dJ6_numberOfTrailingZeros_0f7a4_79 : decode cJ6_numberOfTrailingZeros_0f7a4 79 = .ok (.ireturn, 1) := by decide +kernel
def f_J6_numberOfTrailingZeros_0f7a4_74 (i0 : Int32) (i1 : Int32) (σ : mm_S) : Option (Int32 × mm_S) :=
    some ((i1 + ((i0 : Int32).toUInt32 >>> (((1 : Int32) : Int32).toUInt32 &&& Int32.toUInt32 31)).toInt32), σ)
theorem v_J6_numberOfTrailingZeros_0f7a4_74 {g : mm_G} (d : Nat) {i0 : Int32} {i1 : Int32} {σ : mm_S} {res : Int32 × mm_S}   (h : f_J6_numberOfTrailingZeros_0f7a4_74 i0 i1 σ = some res) : SV g (d + 0) yy_J6_numberOfTrailingZeros_0f7a4 74 [(0, .int i0), (1, .int i1)] [] σ (.int res.1) res.2 := by
  unfold f_J6_numberOfTrailingZeros_0f7a4_74 at h
  refine e_iload_n 1 dJ6_numberOfTrailingZeros_0f7a4_74 rfl rfl ?_
  refine e_iload_n 0 dJ6_numberOfTrailingZeros_0f7a4_75 rfl rfl ?_
  refine e_iconst (v := (1 : Int32)) dJ6_numberOfTrailingZeros_0f7a4_76 (by decide) ?_
  refine e_iushr dJ6_numberOfTrailingZeros_0f7a4_77 rfl ?_
  refine e_iadd dJ6_numberOfTrailingZeros_0f7a4_78 ?_
  obtain rfl := Option.some.inj h
  exact s_ret rfl ⟨_, rfl, rfl⟩ dJ6_numberOfTrailingZeros_0f7a4_79
def f_J6_numberOfTrailingZeros_0f7a4_62 (i0 : Int32) (i1 : Int32) (σ : mm_S) : Option (Int32 × mm_S) :=
    if i0 ≤ (4 : Int32) then
      f_J6_numberOfTrailingZeros_0f7a4_74 i0 i1 σ
    else
      lt (i1 + Int32.ofInt (2)) fun x2 =>
      lt (((i0 : Int32).toUInt32 >>> (((2 : Int32) : Int32).toUInt32 &&& Int32.toUInt32 31)).toInt32) fun x4 =>
      f_J6_numberOfTrailingZeros_0f7a4_74 x4 x2 σ
theorem v_J6_numberOfTrailingZeros_0f7a4_62 {g : mm_G} (d : Nat) {i0 : Int32} {i1 : Int32} {σ : mm_S} {res : Int32 × mm_S}   (h : f_J6_numberOfTrailingZeros_0f7a4_62 i0 i1 σ = some res) : SV g (d + 0) yy_J6_numberOfTrailingZeros_0f7a4 62 [(0, .int i0), (1, .int i1)] [] σ (.int res.1) res.2 := by
  unfold f_J6_numberOfTrailingZeros_0f7a4_62 at h
  refine e_iload_n 0 dJ6_numberOfTrailingZeros_0f7a4_62 rfl rfl ?_
  refine e_iconst (v := (4 : Int32)) dJ6_numberOfTrailingZeros_0f7a4_63 (by decide) ?_
  refine e_icmp_le 74 dJ6_numberOfTrailingZeros_0f7a4_64 (by decide) (fun c1 => ?_) (fun c1 => ?_)
  · rw [if_pos c1] at h
    refine s_pick (L' := [(0, .int i0), (1, .int i1)]) [0, 1] rfl ?_
    exact v_J6_numberOfTrailingZeros_0f7a4_74 d  h
  · rw [if_neg c1] at h
    obtain ⟨x2, q3, h⟩ := lt_some h
    refine e_iinc (v := x2) (L' := [(0, .int i0), (1, .int x2)]) 1 dJ6_numberOfTrailingZeros_0f7a4_67 rfl q3.symm (by decide) rfl ?_
    refine e_iload_n 0 dJ6_numberOfTrailingZeros_0f7a4_70 rfl rfl ?_
    refine e_iconst (v := (2 : Int32)) dJ6_numberOfTrailingZeros_0f7a4_71 (by decide) ?_
    refine e_iushr dJ6_numberOfTrailingZeros_0f7a4_72 rfl ?_
    obtain ⟨x4, q5, h⟩ := lt_some h
    refine s_nmi q5 ?_
    refine e_istore_n (L' := [(0, .int x4), (1, .int x2)]) dJ6_numberOfTrailingZeros_0f7a4_73 rfl (by decide) rfl ?_
    refine s_pick (L' := [(0, .int x4), (1, .int x2)]) [0, 1] rfl ?_
    exact v_J6_numberOfTrailingZeros_0f7a4_74 d  h
def f_J6_numberOfTrailingZeros_0f7a4_49 (i0 : Int32) (i1 : Int32) (σ : mm_S) : Option (Int32 × mm_S) :=
    if i0 ≤ (16 : Int32) then
      f_J6_numberOfTrailingZeros_0f7a4_62 i0 i1 σ
    else
      lt (i1 + Int32.ofInt (4)) fun x7 =>
      lt (((i0 : Int32).toUInt32 >>> (((4 : Int32) : Int32).toUInt32 &&& Int32.toUInt32 31)).toInt32) fun x9 =>
      f_J6_numberOfTrailingZeros_0f7a4_62 x9 x7 σ
theorem v_J6_numberOfTrailingZeros_0f7a4_49 {g : mm_G} (d : Nat) {i0 : Int32} {i1 : Int32} {σ : mm_S} {res : Int32 × mm_S}   (h : f_J6_numberOfTrailingZeros_0f7a4_49 i0 i1 σ = some res) : SV g (d + 0) yy_J6_numberOfTrailingZeros_0f7a4 49 [(0, .int i0), (1, .int i1)] [] σ (.int res.1) res.2 := by
  unfold f_J6_numberOfTrailingZeros_0f7a4_49 at h
  refine e_iload_n 0 dJ6_numberOfTrailingZeros_0f7a4_49 rfl rfl ?_
  refine e_bipush (v := (16 : Int32)) dJ6_numberOfTrailingZeros_0f7a4_50 (by decide) ?_
  refine e_icmp_le 62 dJ6_numberOfTrailingZeros_0f7a4_52 (by decide) (fun c6 => ?_) (fun c6 => ?_)
  · rw [if_pos c6] at h
    refine s_pick (L' := [(0, .int i0), (1, .int i1)]) [0, 1] rfl ?_
    exact v_J6_numberOfTrailingZeros_0f7a4_62 d  h
  · rw [if_neg c6] at h
    obtain ⟨x7, q8, h⟩ := lt_some h
    refine e_iinc (v := x7) (L' := [(0, .int i0), (1, .int x7)]) 1 dJ6_numberOfTrailingZeros_0f7a4_55 rfl q8.symm (by decide) rfl ?_
    refine e_iload_n 0 dJ6_numberOfTrailingZeros_0f7a4_58 rfl rfl ?_
    refine e_iconst (v := (4 : Int32)) dJ6_numberOfTrailingZeros_0f7a4_59 (by decide) ?_
    refine e_iushr dJ6_numberOfTrailingZeros_0f7a4_60 rfl ?_
    obtain ⟨x9, q10, h⟩ := lt_some h
    refine s_nmi q10 ?_
    refine e_istore_n (L' := [(0, .int x9), (1, .int x7)]) dJ6_numberOfTrailingZeros_0f7a4_61 rfl (by decide) rfl ?_
    refine s_pick (L' := [(0, .int x9), (1, .int x7)]) [0, 1] rfl ?_
    exact v_J6_numberOfTrailingZeros_0f7a4_62 d  h
def f_J6_numberOfTrailingZeros_0f7a4_34 (i0 : Int32) (i1 : Int32) (σ : mm_S) : Option (Int32 × mm_S) :=
    if i0 ≤ (256 : Int32) then
      f_J6_numberOfTrailingZeros_0f7a4_49 i0 i1 σ
    else
      lt (i1 + Int32.ofInt (8)) fun x12 =>
      lt (((i0 : Int32).toUInt32 >>> (((8 : Int32) : Int32).toUInt32 &&& Int32.toUInt32 31)).toInt32) fun x14 =>
      f_J6_numberOfTrailingZeros_0f7a4_49 x14 x12 σ
theorem v_J6_numberOfTrailingZeros_0f7a4_34 {g : mm_G} (d : Nat) {i0 : Int32} {i1 : Int32} {σ : mm_S} {res : Int32 × mm_S}   (h : f_J6_numberOfTrailingZeros_0f7a4_34 i0 i1 σ = some res) : SV g (d + 0) yy_J6_numberOfTrailingZeros_0f7a4 34 [(0, .int i0), (1, .int i1)] [] σ (.int res.1) res.2 := by
  unfold f_J6_numberOfTrailingZeros_0f7a4_34 at h
  refine e_iload_n 0 dJ6_numberOfTrailingZeros_0f7a4_34 rfl rfl ?_
  refine e_sipush (v := (256 : Int32)) dJ6_numberOfTrailingZeros_0f7a4_35 (by decide) ?_
  refine e_icmp_le 49 dJ6_numberOfTrailingZeros_0f7a4_38 (by decide) (fun c11 => ?_) (fun c11 => ?_)
  · rw [if_pos c11] at h
    refine s_pick (L' := [(0, .int i0), (1, .int i1)]) [0, 1] rfl ?_
    exact v_J6_numberOfTrailingZeros_0f7a4_49 d  h
  · rw [if_neg c11] at h
    obtain ⟨x12, q13, h⟩ := lt_some h
    refine e_iinc (v := x12) (L' := [(0, .int i0), (1, .int x12)]) 1 dJ6_numberOfTrailingZeros_0f7a4_41 rfl q13.symm (by decide) rfl ?_
    refine e_iload_n 0 dJ6_numberOfTrailingZeros_0f7a4_44 rfl rfl ?_
    refine e_bipush (v := (8 : Int32)) dJ6_numberOfTrailingZeros_0f7a4_45 (by decide) ?_
    refine e_iushr dJ6_numberOfTrailingZeros_0f7a4_47 rfl ?_
    obtain ⟨x14, q15, h⟩ := lt_some h
    refine s_nmi q15 ?_
    refine e_istore_n (L' := [(0, .int x14), (1, .int x12)]) dJ6_numberOfTrailingZeros_0f7a4_48 rfl (by decide) rfl ?_
    refine s_pick (L' := [(0, .int x14), (1, .int x12)]) [0, 1] rfl ?_
    exact v_J6_numberOfTrailingZeros_0f7a4_49 d  h
def f_J6_numberOfTrailingZeros_0f7a4 (i0 : Int32) (σ : mm_S) : Option (Int32 × mm_S) :=
    lt (((i0 ^^^ (-1 : Int32)) &&& (i0 - (1 : Int32)))) fun x24 =>
    if 0 < x24 then
      if x24 ≤ (65536 : Int32) then
        f_J6_numberOfTrailingZeros_0f7a4_34 x24 (1 : Int32) σ
      else
        lt ((1 : Int32) + Int32.ofInt (16)) fun x28 =>
        lt (((x24 : Int32).toUInt32 >>> (((16 : Int32) : Int32).toUInt32 &&& Int32.toUInt32 31)).toInt32) fun x30 =>
        f_J6_numberOfTrailingZeros_0f7a4_34 x30 x28 σ
    else
      some ((x24 &&& (32 : Int32)), σ)
theorem v_J6_numberOfTrailingZeros_0f7a4 {g : mm_G} (d : Nat) {i0 : Int32} {σ : mm_S} {res : Int32 × mm_S}  (h : f_J6_numberOfTrailingZeros_0f7a4 i0 σ = some res) : SM g (d + 0) yy_J6_numberOfTrailingZeros_0f7a4 [.int i0] σ (.int res.1) res.2 := by
  refine s_of (by decide) (Nat.le_of_ble_eq_true rfl) (L := [(0, .int i0)]) rfl ?_
  unfold f_J6_numberOfTrailingZeros_0f7a4 at h
  refine e_iload_n 0 dJ6_numberOfTrailingZeros_0f7a4_0 rfl rfl ?_
  refine e_iconst (v := (-1 : Int32)) dJ6_numberOfTrailingZeros_0f7a4_1 (by decide) ?_
  refine e_ixor dJ6_numberOfTrailingZeros_0f7a4_2 ?_
  refine e_iload_n 0 dJ6_numberOfTrailingZeros_0f7a4_3 rfl rfl ?_
  refine e_iconst (v := (1 : Int32)) dJ6_numberOfTrailingZeros_0f7a4_4 (by decide) ?_
  refine e_isub dJ6_numberOfTrailingZeros_0f7a4_5 ?_
  refine e_iand dJ6_numberOfTrailingZeros_0f7a4_6 ?_
  obtain ⟨x24, q25, h⟩ := lt_some h
  refine s_nmi q25 ?_
  refine e_istore_n (L' := [(0, .int x24)]) dJ6_numberOfTrailingZeros_0f7a4_7 rfl (by decide) rfl ?_
  refine e_iload_n 0 dJ6_numberOfTrailingZeros_0f7a4_8 rfl rfl ?_
  refine e_if_gt 17 dJ6_numberOfTrailingZeros_0f7a4_9 (by decide) (fun c26 => ?_) (fun c26 => ?_)
  · rw [if_pos c26] at h
    refine e_iconst (v := (1 : Int32)) dJ6_numberOfTrailingZeros_0f7a4_17 (by decide) ?_
    refine e_istore_n (L' := [(0, .int x24), (1, .int (1 : Int32))]) dJ6_numberOfTrailingZeros_0f7a4_18 rfl (by decide) rfl ?_
    refine e_iload_n 0 dJ6_numberOfTrailingZeros_0f7a4_19 rfl rfl ?_
    refine e_ldcw dJ6_numberOfTrailingZeros_0f7a4_20 co_RJ6_264 ?_
    refine e_icmp_le 34 dJ6_numberOfTrailingZeros_0f7a4_23 (by decide) (fun c27 => ?_) (fun c27 => ?_)
    · rw [if_pos c27] at h
      refine s_pick (L' := [(0, .int x24), (1, .int (1 : Int32))]) [0, 1] rfl ?_
      exact v_J6_numberOfTrailingZeros_0f7a4_34 d  h
    · rw [if_neg c27] at h
      obtain ⟨x28, q29, h⟩ := lt_some h
      refine e_iinc (v := x28) (L' := [(0, .int x24), (1, .int x28)]) 1 dJ6_numberOfTrailingZeros_0f7a4_26 rfl q29.symm (by decide) rfl ?_
      refine e_iload_n 0 dJ6_numberOfTrailingZeros_0f7a4_29 rfl rfl ?_
      refine e_bipush (v := (16 : Int32)) dJ6_numberOfTrailingZeros_0f7a4_30 (by decide) ?_
      refine e_iushr dJ6_numberOfTrailingZeros_0f7a4_32 rfl ?_
      obtain ⟨x30, q31, h⟩ := lt_some h
      refine s_nmi q31 ?_
      refine e_istore_n (L' := [(0, .int x30), (1, .int x28)]) dJ6_numberOfTrailingZeros_0f7a4_33 rfl (by decide) rfl ?_
      refine s_pick (L' := [(0, .int x30), (1, .int x28)]) [0, 1] rfl ?_
      exact v_J6_numberOfTrailingZeros_0f7a4_34 d  h
  · rw [if_neg c26] at h
    refine e_iload_n 0 dJ6_numberOfTrailingZeros_0f7a4_12 rfl rfl ?_
    refine e_bipush (v := (32 : Int32)) dJ6_numberOfTrailingZeros_0f7a4_13 (by decide) ?_
    refine e_iand dJ6_numberOfTrailingZeros_0f7a4_15 ?_
    obtain rfl := Option.some.inj h
    exact s_ret rfl ⟨_, rfl, rfl⟩ dJ6_numberOfTrailingZeros_0f7a4_16
