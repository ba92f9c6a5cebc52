abbrev yy_X7_sleepOrTire : mm_Y := (yX7_sleepOrTire, cX7_sleepOrTire, 2, none)
theorem dX7_sleepOrTire_0 : decode cX7_sleepOrTire 0 = .ok (.iconst 0, 1) := by decide +kernel
theorem dX7_sleepOrTire_1 : decode cX7_sleepOrTire 1 = .ok (.istore_n 1, 1) := by decide +kernel
theorem dX7_sleepOrTire_2 : decode cX7_sleepOrTire 2 = .ok (.iload_n 1, 1) := by decide +kernel
theorem dX7_sleepOrTire_3 : decode cX7_sleepOrTire 3 = .ok (.aload_n 0, 1) := by decide +kernel
theorem dX7_sleepOrTire_4 : decode cX7_sleepOrTire 4 = .ok (.getfield 35, 3) := by decide +kernel
theorem dX7_sleepOrTire_7 : decode cX7_sleepOrTire 7 = .ok (.getfield 92, 3) := by decide +kernel
theorem dX7_sleepOrTire_10 : decode cX7_sleepOrTire 10 = .ok (.if_icmp .ge 75, 3) := by decide +kernel
theorem dX7_sleepOrTire_13 : decode cX7_sleepOrTire 13 = .ok (.aload_n 0, 1) := by decide +kernel
theorem dX7_sleepOrTire_14 : decode cX7_sleepOrTire 14 = .ok (.getfield 12, 3) := by decide +kernel
theorem dX7_sleepOrTire_17 : decode cX7_sleepOrTire 17 = .ok (.iload_n 1, 1) := by decide +kernel
theorem dX7_sleepOrTire_18 : decode cX7_sleepOrTire 18 = .ok (.invokevirtual 123, 3) := by decide +kernel
theorem dX7_sleepOrTire_21 : decode cX7_sleepOrTire 21 = .ok (.ifCond .eq 49, 3) := by decide +kernel
theorem dX7_sleepOrTire_24 : decode cX7_sleepOrTire 24 = .ok (.aload_n 0, 1) := by decide +kernel
theorem dX7_sleepOrTire_25 : decode cX7_sleepOrTire 25 = .ok (.getfield 12, 3) := by decide +kernel
theorem dX7_sleepOrTire_28 : decode cX7_sleepOrTire 28 = .ok (.getfield 130, 3) := by decide +kernel
theorem dX7_sleepOrTire_31 : decode cX7_sleepOrTire 31 = .ok (.iload_n 1, 1) := by decide +kernel
theorem dX7_sleepOrTire_32 : decode cX7_sleepOrTire 32 = .ok (.aload_n 0, 1) := by decide +kernel
theorem dX7_sleepOrTire_33 : decode cX7_sleepOrTire 33 = .ok (.getfield 12, 3) := by decide +kernel
theorem dX7_sleepOrTire_36 : decode cX7_sleepOrTire 36 = .ok (.getfield 130, 3) := by decide +kernel
theorem dX7_sleepOrTire_39 : decode cX7_sleepOrTire 39 = .ok (.iload_n 1, 1) := by decide +kernel
theorem dX7_sleepOrTire_40 : decode cX7_sleepOrTire 40 = .ok (.iaload, 1) := by decide +kernel
theorem dX7_sleepOrTire_41 : decode cX7_sleepOrTire 41 = .ok (.aload_n 0, 1) := by decide +kernel
theorem dX7_sleepOrTire_42 : decode cX7_sleepOrTire 42 = .ok (.getfield 35, 3) := by decide +kernel
theorem dX7_sleepOrTire_45 : decode cX7_sleepOrTire 45 = .ok (.getfield 161, 3) := by decide +kernel
theorem dX7_sleepOrTire_48 : decode cX7_sleepOrTire 48 = .ok (.isub, 1) := by decide +kernel
theorem dX7_sleepOrTire_49 : decode cX7_sleepOrTire 49 = .ok (.iconst 0, 1) := by decide +kernel
theorem dX7_sleepOrTire_50 : decode cX7_sleepOrTire 50 = .ok (.invokestatic 164, 3) := by decide +kernel
theorem dX7_sleepOrTire_53 : decode cX7_sleepOrTire 53 = .ok (.iastore, 1) := by decide +kernel
theorem dX7_sleepOrTire_54 : decode cX7_sleepOrTire 54 = .ok (.aload_n 0, 1) := by decide +kernel
theorem dX7_sleepOrTire_55 : decode cX7_sleepOrTire 55 = .ok (.getfield 12, 3) := by decide +kernel
theorem dX7_sleepOrTire_58 : decode cX7_sleepOrTire 58 = .ok (.getfield 169, 3) := by decide +kernel
theorem dX7_sleepOrTire_61 : decode cX7_sleepOrTire 61 = .ok (.iload_n 1, 1) := by decide +kernel
theorem dX7_sleepOrTire_62 : decode cX7_sleepOrTire 62 = .ok (.dup2, 1) := by decide +kernel
theorem dX7_sleepOrTire_63 : decode cX7_sleepOrTire 63 = .ok (.iaload, 1) := by decide +kernel
theorem dX7_sleepOrTire_64 : decode cX7_sleepOrTire 64 = .ok (.iconst 1, 1) := by decide +kernel
theorem dX7_sleepOrTire_65 : decode cX7_sleepOrTire 65 = .ok (.iadd, 1) := by decide +kernel
theorem dX7_sleepOrTire_66 : decode cX7_sleepOrTire 66 = .ok (.iastore, 1) := by decide +kernel
theorem dX7_sleepOrTire_67 : decode cX7_sleepOrTire 67 = .ok (.goto 12, 3) := by decide +kernel
theorem dX7_sleepOrTire_70 : decode cX7_sleepOrTire 70 = .ok (.aload_n 0, 1) := by decide +kernel
theorem dX7_sleepOrTire_71 : decode cX7_sleepOrTire 71 = .ok (.getfield 12, 3) := by decide +kernel
theorem dX7_sleepOrTire_74 : decode cX7_sleepOrTire 74 = .ok (.iload_n 1, 1) := by decide +kernel
theorem dX7_sleepOrTire_75 : decode cX7_sleepOrTire 75 = .ok (.iconst 1, 1) := by decide +kernel
theorem dX7_sleepOrTire_76 : decode cX7_sleepOrTire 76 = .ok (.invokevirtual 172, 3) := by decide +kernel
theorem dX7_sleepOrTire_79 : decode cX7_sleepOrTire 79 = .ok (.iinc 1 1, 3) := by decide +kernel
theorem dX7_sleepOrTire_82 : decode cX7_sleepOrTire 82 = .ok (.goto (-80), 3) := by decide +kernel
theorem dX7_sleepOrTire_85 : decode cX7_sleepOrTire 85 = .ok (.return_, 1) := by decide +kernel
def f_X7_sleepOrTire_2 (a0 : Nat) (i1 : Int32) (σ : mm_S) : Option (mm_S) :=
  lp lpN (fun (k2 : (Int32) → mm_S → Option (mm_S)) (v : Int32) (σ : mm_S) =>
    if (σ.1 27 3) ≤ v then
      some σ
    else
      bd (f_X2_isIn 201 v σ) fun r4 σ3 =>
      if r4 = 0 then
        bv (f_X2_tireBy 201 v (1 : Int32) σ3) fun σ7 =>
        lt (v + Int32.ofInt (1)) fun x8 =>
        k2 x8 σ7
      else
        gd v 6 <|
        lt ((if ((σ3.1 (201 + 1) v.toNatClampNeg) - (σ3.1 27 1)) < (0 : Int32) then (0 : Int32) else ((σ3.1 (201 + 1) v.toNatClampNeg) - (σ3.1 27 1)))) fun x11 =>
        gd v 6 <|
        lt (su_i σ3 (201 + 1) v.toNatClampNeg x11) fun σ14 =>
        gd v 6 <|
        gd v 6 <|
        lt (su_i σ14 (201 + 4) v.toNatClampNeg ((σ14.1 (201 + 4) v.toNatClampNeg) + (1 : Int32))) fun σ18 =>
        lt (v + Int32.ofInt (1)) fun x20 =>
        k2 x20 σ18) i1 σ
theorem v_X7_sleepOrTire_2 {g : mm_G} (d : Nat) {a0 : Nat} {i1 : Int32} {σ : mm_S} {res : mm_S}  (h_a0 : (mm_K a0).1 = 7) (h : f_X7_sleepOrTire_2 a0 i1 σ = some res) : SV g (d + 2) yy_X7_sleepOrTire 2 [(0, .ref a0), (1, .int i1)] [] σ .null res := by
  unfold f_X7_sleepOrTire_2 at h
  refine lp_ind (P := fun v σ => SV g (d + 2) yy_X7_sleepOrTire 2 [(0, .ref a0), (1, .int v)] [] σ .null res) (fun k2 H2 v σ h => ?_) _ i1 σ h
  refine e_iload_n 1 dX7_sleepOrTire_2 rfl rfl ?_
  refine e_aload_n 0 dX7_sleepOrTire_3 rfl rfl ?_
  refine s_getr dX7_sleepOrTire_4 fl_RX7_35 h_a0 (r_7_0 h_a0).1 ?_
  refine s_geti dX7_sleepOrTire_7 fl_RX7_92 (ka_1 (r_7_0 (w := 0) h_a0).2) ?_
  refine e_icmp_ge 85 dX7_sleepOrTire_10 (by decide) (fun c1 => ?_) (fun c1 => ?_)
  · rw [if_pos c1] at h
    obtain rfl := Option.some.inj h
    exact s_ret rfl rfl dX7_sleepOrTire_85
  · rw [if_neg c1] at h
    refine e_aload_n 0 dX7_sleepOrTire_13 rfl rfl ?_
    refine s_getr dX7_sleepOrTire_14 fl_RX7_12 h_a0 (r_7_1 h_a0).1 ?_
    refine e_iload_n 1 dX7_sleepOrTire_17 rfl rfl ?_
    obtain ⟨r4, σ3, q2, h⟩ := bd_some h
    refine s_callVi [.int v] dX7_sleepOrTire_18 ml_RX7_123 (ka_1 (r_7_1 (w := 0) h_a0).2) ⟨_, rfl, by decide⟩ rfl (v_X2_isIn (d + 1) (ka_1 (r_7_1 (w := 0) h_a0).2) q2) (Nat.le_of_ble_eq_true rfl) ?_
    refine e_if_eq 70 dX7_sleepOrTire_21 (by decide) (fun c5 => ?_) (fun c5 => ?_)
    · rw [if_pos c5] at h
      refine e_aload_n 0 dX7_sleepOrTire_70 rfl rfl ?_
      refine s_getr dX7_sleepOrTire_71 fl_RX7_12 h_a0 (r_7_1 h_a0).1 ?_
      refine e_iload_n 1 dX7_sleepOrTire_74 rfl rfl ?_
      refine e_iconst (v := (1 : Int32)) dX7_sleepOrTire_75 (by decide) ?_
      obtain ⟨σ7, q6, h⟩ := bv_some h
      refine s_callVv [.int v, .int (1 : Int32)] dX7_sleepOrTire_76 ml_RX7_172 (ka_1 (r_7_1 (w := 0) h_a0).2) rfl rfl (v_X2_tireBy (d + 0) (ka_1 (r_7_1 (w := 0) h_a0).2) q6) (Nat.le_of_ble_eq_true rfl) ?_
      obtain ⟨x8, q9, h⟩ := lt_some h
      refine e_iinc (v := x8) (L' := [(0, .ref a0), (1, .int x8)]) 1 dX7_sleepOrTire_79 rfl q9.symm (by decide) rfl ?_
      refine e_goto 2 dX7_sleepOrTire_82 (by decide) ?_
      refine s_pick (L' := [(0, .ref a0), (1, .int x8)]) [0, 1] rfl ?_
      exact H2 x8 σ7 h
    · rw [if_neg c5] at h
      refine e_aload_n 0 dX7_sleepOrTire_24 rfl rfl ?_
      refine s_getr dX7_sleepOrTire_25 fl_RX7_12 h_a0 (r_7_1 h_a0).1 ?_
      refine s_getr dX7_sleepOrTire_28 fl_RX7_130 (ka_1 (r_7_1 (w := 0) h_a0).2) (r_2_2 (ka_1 (r_7_1 (w := 0) h_a0).2)).1 ?_
      refine e_iload_n 1 dX7_sleepOrTire_31 rfl rfl ?_
      refine e_aload_n 0 dX7_sleepOrTire_32 rfl rfl ?_
      refine s_getr dX7_sleepOrTire_33 fl_RX7_12 h_a0 (r_7_1 h_a0).1 ?_
      refine s_getr dX7_sleepOrTire_36 fl_RX7_130 (ka_1 (r_7_1 (w := 0) h_a0).2) (r_2_2 (ka_1 (r_7_1 (w := 0) h_a0).2)).1 ?_
      refine e_iload_n 1 dX7_sleepOrTire_39 rfl rfl ?_
      obtain ⟨q10, h⟩ := gd_some h
      refine s_iald dX7_sleepOrTire_40 (r_2_2 (w := 0) (ka_1 (r_7_1 (w := 0) h_a0).2)).2 q10 ?_
      refine e_aload_n 0 dX7_sleepOrTire_41 rfl rfl ?_
      refine s_getr dX7_sleepOrTire_42 fl_RX7_35 h_a0 (r_7_0 h_a0).1 ?_
      refine s_geti dX7_sleepOrTire_45 fl_RX7_161 (ka_1 (r_7_0 (w := 0) h_a0).2) ?_
      refine e_isub dX7_sleepOrTire_48 ?_
      refine e_iconst (v := (0 : Int32)) dX7_sleepOrTire_49 (by decide) ?_
      refine s_mmax dX7_sleepOrTire_50 mx_RX7_164 (Nat.le_of_ble_eq_true rfl) ?_
      obtain ⟨x11, q12, h⟩ := lt_some h
      refine s_nmi q12 ?_
      obtain ⟨q13, h⟩ := gd_some h
      refine s_iast dX7_sleepOrTire_53 (r_2_2 (w := 0) (ka_1 (r_7_1 (w := 0) h_a0).2)).2 q13 ?_
      obtain ⟨σ14, q15, h⟩ := lt_some h
      refine s_nms q15 ?_
      refine e_aload_n 0 dX7_sleepOrTire_54 rfl rfl ?_
      refine s_getr dX7_sleepOrTire_55 fl_RX7_12 h_a0 (r_7_1 h_a0).1 ?_
      refine s_getr dX7_sleepOrTire_58 fl_RX7_169 (ka_1 (r_7_1 (w := 0) h_a0).2) (r_2_5 (ka_1 (r_7_1 (w := 0) h_a0).2)).1 ?_
      refine e_iload_n 1 dX7_sleepOrTire_61 rfl rfl ?_
      refine e_dup2 dX7_sleepOrTire_62 rfl rfl ?_
      obtain ⟨q16, h⟩ := gd_some h
      refine s_iald dX7_sleepOrTire_63 (r_2_5 (w := 0) (ka_1 (r_7_1 (w := 0) h_a0).2)).2 q16 ?_
      refine e_iconst (v := (1 : Int32)) dX7_sleepOrTire_64 (by decide) ?_
      refine e_iadd dX7_sleepOrTire_65 ?_
      obtain ⟨q17, h⟩ := gd_some h
      refine s_iast dX7_sleepOrTire_66 (r_2_5 (w := 0) (ka_1 (r_7_1 (w := 0) h_a0).2)).2 q17 ?_
      obtain ⟨σ18, q19, h⟩ := lt_some h
      refine s_nms q19 ?_
      refine e_goto 79 dX7_sleepOrTire_67 (by decide) ?_
      obtain ⟨x20, q21, h⟩ := lt_some h
      refine e_iinc (v := x20) (L' := [(0, .ref a0), (1, .int x20)]) 1 dX7_sleepOrTire_79 rfl q21.symm (by decide) rfl ?_
      refine e_goto 2 dX7_sleepOrTire_82 (by decide) ?_
      refine s_pick (L' := [(0, .ref a0), (1, .int x20)]) [0, 1] rfl ?_
      exact H2 x20 σ18 h
def f_X7_sleepOrTire (a0 : Nat) (σ : mm_S) : Option (mm_S) :=
    f_X7_sleepOrTire_2 a0 (0 : Int32) σ
theorem v_X7_sleepOrTire {g : mm_G} (d : Nat) {a0 : Nat} {σ : mm_S} {res : mm_S} (h_a0 : (mm_K a0).1 = 7) (h : f_X7_sleepOrTire a0 σ = some res) : SM g (d + 2) yy_X7_sleepOrTire [.ref a0] σ .null res := by
  refine s_of (by decide) (Nat.le_of_ble_eq_true rfl) (L := [(0, .ref a0)]) rfl ?_
  unfold f_X7_sleepOrTire at h
  refine e_iconst (v := (0 : Int32)) dX7_sleepOrTire_0 (by decide) ?_
  refine e_istore_n (L' := [(0, .ref a0), (1, .int (0 : Int32))]) dX7_sleepOrTire_1 rfl (by decide) rfl ?_
  refine s_pick (L' := [(0, .ref a0), (1, .int (0 : Int32))]) [0, 1] rfl ?_
  exact v_X7_sleepOrTire_2 d h_a0 h
abbrev yy_X7_firstSeeker : mm_Y := (yX7_firstSeeker, cX7_firstSeeker, 3, (some .int))
theorem dX7_firstSeeker_0 : decode cX7_firstSeeker 0 = .ok (.iconst 0, 1) := by decide +kernel
theorem dX7_firstSeeker_1 : decode cX7_firstSeeker 1 = .ok (.istore_n 2, 1) := by decide +kernel
theorem dX7_firstSeeker_2 : decode cX7_firstSeeker 2 = .ok (.iload_n 2, 1) := by decide +kernel
theorem dX7_firstSeeker_3 : decode cX7_firstSeeker 3 = .ok (.aload_n 0, 1) := by decide +kernel
theorem dX7_firstSeeker_4 : decode cX7_firstSeeker 4 = .ok (.getfield 35, 3) := by decide +kernel
theorem dX7_firstSeeker_7 : decode cX7_firstSeeker 7 = .ok (.getfield 92, 3) := by decide +kernel
theorem dX7_firstSeeker_10 : decode cX7_firstSeeker 10 = .ok (.if_icmp .ge 24, 3) := by decide +kernel
theorem dX7_firstSeeker_13 : decode cX7_firstSeeker 13 = .ok (.aload_n 0, 1) := by decide +kernel
theorem dX7_firstSeeker_14 : decode cX7_firstSeeker 14 = .ok (.getfield 12, 3) := by decide +kernel
theorem dX7_firstSeeker_17 : decode cX7_firstSeeker 17 = .ok (.getfield 114, 3) := by decide +kernel
theorem dX7_firstSeeker_20 : decode cX7_firstSeeker 20 = .ok (.iload_n 2, 1) := by decide +kernel
theorem dX7_firstSeeker_21 : decode cX7_firstSeeker 21 = .ok (.iaload, 1) := by decide +kernel
theorem dX7_firstSeeker_22 : decode cX7_firstSeeker 22 = .ok (.iload_n 1, 1) := by decide +kernel
theorem dX7_firstSeeker_23 : decode cX7_firstSeeker 23 = .ok (.if_icmp .ne 5, 3) := by decide +kernel
theorem dX7_firstSeeker_26 : decode cX7_firstSeeker 26 = .ok (.iload_n 2, 1) := by decide +kernel
theorem dX7_firstSeeker_27 : decode cX7_firstSeeker 27 = .ok (.ireturn, 1) := by decide +kernel
theorem dX7_firstSeeker_28 : decode cX7_firstSeeker 28 = .ok (.iinc 2 1, 3) := by decide +kernel
theorem dX7_firstSeeker_31 : decode cX7_firstSeeker 31 = .ok (.goto (-29), 3) := by decide +kernel
theorem dX7_firstSeeker_34 : decode cX7_firstSeeker 34 = .ok (.iconst (-1), 1) := by decide +kernel
theorem dX7_firstSeeker_35 : decode cX7_firstSeeker 35 = .ok (.ireturn, 1) := by decide +kernel
def f_X7_firstSeeker_2 (a0 : Nat) (i1 : Int32) (i2 : Int32) (σ : mm_S) : Option (Int32 × mm_S) :=
  lp lpN (fun (k2 : (Int32) → mm_S → Option (Int32 × mm_S)) (v : Int32) (σ : mm_S) =>
    if (σ.1 27 3) ≤ v then
      some ((-1 : Int32), σ)
    else
      gd v 6 <|
      if (σ.1 (201 + 3) v.toNatClampNeg) = i1 then
        some (v, σ)
      else
        lt (v + Int32.ofInt (1)) fun x4 =>
        k2 x4 σ) i2 σ
theorem v_X7_firstSeeker_2 {g : mm_G} (d : Nat) {a0 : Nat} {i1 : Int32} {i2 : Int32} {σ : mm_S} {res : Int32 × mm_S}  (h_a0 : (mm_K a0).1 = 7) (h : f_X7_firstSeeker_2 a0 i1 i2 σ = some res) : SV g (d + 0) yy_X7_firstSeeker 2 [(0, .ref a0), (1, .int i1), (2, .int i2)] [] σ (.int res.1) res.2 := by
  unfold f_X7_firstSeeker_2 at h
  refine lp_ind (P := fun v σ => SV g (d + 0) yy_X7_firstSeeker 2 [(0, .ref a0), (1, .int i1), (2, .int v)] [] σ (.int res.1) res.2) (fun k2 H2 v σ h => ?_) _ i2 σ h
  refine e_iload_n 2 dX7_firstSeeker_2 rfl rfl ?_
  refine e_aload_n 0 dX7_firstSeeker_3 rfl rfl ?_
  refine s_getr dX7_firstSeeker_4 fl_RX7_35 h_a0 (r_7_0 h_a0).1 ?_
  refine s_geti dX7_firstSeeker_7 fl_RX7_92 (ka_1 (r_7_0 (w := 0) h_a0).2) ?_
  refine e_icmp_ge 34 dX7_firstSeeker_10 (by decide) (fun c1 => ?_) (fun c1 => ?_)
  · rw [if_pos c1] at h
    refine e_iconst (v := (-1 : Int32)) dX7_firstSeeker_34 (by decide) ?_
    obtain rfl := Option.some.inj h
    exact s_ret rfl ⟨_, rfl, rfl⟩ dX7_firstSeeker_35
  · rw [if_neg c1] at h
    refine e_aload_n 0 dX7_firstSeeker_13 rfl rfl ?_
    refine s_getr dX7_firstSeeker_14 fl_RX7_12 h_a0 (r_7_1 h_a0).1 ?_
    refine s_getr dX7_firstSeeker_17 fl_RX7_114 (ka_1 (r_7_1 (w := 0) h_a0).2) (r_2_4 (ka_1 (r_7_1 (w := 0) h_a0).2)).1 ?_
    refine e_iload_n 2 dX7_firstSeeker_20 rfl rfl ?_
    obtain ⟨q2, h⟩ := gd_some h
    refine s_iald dX7_firstSeeker_21 (r_2_4 (w := 0) (ka_1 (r_7_1 (w := 0) h_a0).2)).2 q2 ?_
    refine e_iload_n 1 dX7_firstSeeker_22 rfl rfl ?_
    refine e_icmp_ne 28 dX7_firstSeeker_23 (by decide) (fun c3 => ?_) (fun c3 => ?_)
    · rw [if_neg c3] at h
      obtain ⟨x4, q5, h⟩ := lt_some h
      refine e_iinc (v := x4) (L' := [(0, .ref a0), (1, .int i1), (2, .int x4)]) 2 dX7_firstSeeker_28 rfl q5.symm (by decide) rfl ?_
      refine e_goto 2 dX7_firstSeeker_31 (by decide) ?_
      refine s_pick (L' := [(0, .ref a0), (1, .int i1), (2, .int x4)]) [0, 1, 2] rfl ?_
      exact H2 x4 σ h
    · rw [if_pos c3] at h
      refine e_iload_n 2 dX7_firstSeeker_26 rfl rfl ?_
      obtain rfl := Option.some.inj h
      exact s_ret rfl ⟨_, rfl, rfl⟩ dX7_firstSeeker_27
def f_X7_firstSeeker (a0 : Nat) (i1 : Int32) (σ : mm_S) : Option (Int32 × mm_S) :=
    f_X7_firstSeeker_2 a0 i1 (0 : Int32) σ
theorem v_X7_firstSeeker {g : mm_G} (d : Nat) {a0 : Nat} {i1 : Int32} {σ : mm_S} {res : Int32 × mm_S} (h_a0 : (mm_K a0).1 = 7) (h : f_X7_firstSeeker a0 i1 σ = some res) : SM g (d + 0) yy_X7_firstSeeker [.ref a0, .int i1] σ (.int res.1) res.2 := by
  refine s_of (by decide) (Nat.le_of_ble_eq_true rfl) (L := [(0, .ref a0), (1, .int i1)]) rfl ?_
  unfold f_X7_firstSeeker at h
  refine e_iconst (v := (0 : Int32)) dX7_firstSeeker_0 (by decide) ?_
  refine e_istore_n (L' := [(0, .ref a0), (1, .int i1), (2, .int (0 : Int32))]) dX7_firstSeeker_1 rfl (by decide) rfl ?_
  refine s_pick (L' := [(0, .ref a0), (1, .int i1), (2, .int (0 : Int32))]) [0, 1, 2] rfl ?_
  exact v_X7_firstSeeker_2 d h_a0 h
abbrev yy_X7_payTheSeekers : mm_Y := (yX7_payTheSeekers, cX7_payTheSeekers, 3, none)
theorem dX7_payTheSeekers_0 : decode cX7_payTheSeekers 0 = .ok (.iconst 0, 1) := by decide +kernel
theorem dX7_payTheSeekers_1 : decode cX7_payTheSeekers 1 = .ok (.istore_n 1, 1) := by decide +kernel
theorem dX7_payTheSeekers_2 : decode cX7_payTheSeekers 2 = .ok (.iload_n 1, 1) := by decide +kernel
theorem dX7_payTheSeekers_3 : decode cX7_payTheSeekers 3 = .ok (.aload_n 0, 1) := by decide +kernel
theorem dX7_payTheSeekers_4 : decode cX7_payTheSeekers 4 = .ok (.getfield 35, 3) := by decide +kernel
theorem dX7_payTheSeekers_7 : decode cX7_payTheSeekers 7 = .ok (.getfield 92, 3) := by decide +kernel
theorem dX7_payTheSeekers_10 : decode cX7_payTheSeekers 10 = .ok (.if_icmp .ge 52, 3) := by decide +kernel
theorem dX7_payTheSeekers_13 : decode cX7_payTheSeekers 13 = .ok (.aload_n 0, 1) := by decide +kernel
theorem dX7_payTheSeekers_14 : decode cX7_payTheSeekers 14 = .ok (.getfield 12, 3) := by decide +kernel
theorem dX7_payTheSeekers_17 : decode cX7_payTheSeekers 17 = .ok (.iload_n 1, 1) := by decide +kernel
theorem dX7_payTheSeekers_18 : decode cX7_payTheSeekers 18 = .ok (.invokevirtual 123, 3) := by decide +kernel
theorem dX7_payTheSeekers_21 : decode cX7_payTheSeekers 21 = .ok (.ifCond .eq 35, 3) := by decide +kernel
theorem dX7_payTheSeekers_24 : decode cX7_payTheSeekers 24 = .ok (.aload_n 0, 1) := by decide +kernel
theorem dX7_payTheSeekers_25 : decode cX7_payTheSeekers 25 = .ok (.getfield 12, 3) := by decide +kernel
theorem dX7_payTheSeekers_28 : decode cX7_payTheSeekers 28 = .ok (.getfield 133, 3) := by decide +kernel
theorem dX7_payTheSeekers_31 : decode cX7_payTheSeekers 31 = .ok (.iload_n 1, 1) := by decide +kernel
theorem dX7_payTheSeekers_32 : decode cX7_payTheSeekers 32 = .ok (.iaload, 1) := by decide +kernel
theorem dX7_payTheSeekers_33 : decode cX7_payTheSeekers 33 = .ok (.ifCond .le 23, 3) := by decide +kernel
theorem dX7_payTheSeekers_36 : decode cX7_payTheSeekers 36 = .ok (.aload_n 0, 1) := by decide +kernel
theorem dX7_payTheSeekers_37 : decode cX7_payTheSeekers 37 = .ok (.iload_n 1, 1) := by decide +kernel
theorem dX7_payTheSeekers_38 : decode cX7_payTheSeekers 38 = .ok (.invokevirtual 176, 3) := by decide +kernel
theorem dX7_payTheSeekers_41 : decode cX7_payTheSeekers 41 = .ok (.istore_n 2, 1) := by decide +kernel
theorem dX7_payTheSeekers_42 : decode cX7_payTheSeekers 42 = .ok (.iload_n 2, 1) := by decide +kernel
theorem dX7_payTheSeekers_43 : decode cX7_payTheSeekers 43 = .ok (.ifCond .lt 13, 3) := by decide +kernel
theorem dX7_payTheSeekers_46 : decode cX7_payTheSeekers 46 = .ok (.aload_n 0, 1) := by decide +kernel
theorem dX7_payTheSeekers_47 : decode cX7_payTheSeekers 47 = .ok (.getfield 12, 3) := by decide +kernel
theorem dX7_payTheSeekers_50 : decode cX7_payTheSeekers 50 = .ok (.iload_n 1, 1) := by decide +kernel
theorem dX7_payTheSeekers_51 : decode cX7_payTheSeekers 51 = .ok (.iload_n 2, 1) := by decide +kernel
theorem dX7_payTheSeekers_52 : decode cX7_payTheSeekers 52 = .ok (.iconst 1, 1) := by decide +kernel
theorem dX7_payTheSeekers_53 : decode cX7_payTheSeekers 53 = .ok (.invokevirtual 179, 3) := by decide +kernel
theorem dX7_payTheSeekers_56 : decode cX7_payTheSeekers 56 = .ok (.iinc 1 1, 3) := by decide +kernel
theorem dX7_payTheSeekers_59 : decode cX7_payTheSeekers 59 = .ok (.goto (-57), 3) := by decide +kernel
theorem dX7_payTheSeekers_62 : decode cX7_payTheSeekers 62 = .ok (.return_, 1) := by decide +kernel
def f_X7_payTheSeekers_2 (a0 : Nat) (i1 : Int32) (σ : mm_S) : Option (mm_S) :=
  lp lpN (fun (k2 : (Int32) → mm_S → Option (mm_S)) (v : Int32) (σ : mm_S) =>
    if (σ.1 27 3) ≤ v then
      some σ
    else
      bd (f_X2_isIn 201 v σ) fun r4 σ3 =>
      if r4 = 0 then
        lt (v + Int32.ofInt (1)) fun x6 =>
        k2 x6 σ3
      else
        gd v 6 <|
        if (σ3.1 (201 + 2) v.toNatClampNeg) ≤ 0 then
          lt (v + Int32.ofInt (1)) fun x10 =>
          k2 x10 σ3
        else
          bd (f_X7_firstSeeker a0 v σ3) fun r14 σ13 =>
          if r14 < 0 then
            lt (v + Int32.ofInt (1)) fun x16 =>
            k2 x16 σ13
          else
            bv (f_X2_give 201 v r14 (1 : Int32) σ13) fun σ19 =>
            lt (v + Int32.ofInt (1)) fun x20 =>
            k2 x20 σ19) i1 σ
theorem v_X7_payTheSeekers_2 {g : mm_G} (d : Nat) {a0 : Nat} {i1 : Int32} {σ : mm_S} {res : mm_S}  (h_a0 : (mm_K a0).1 = 7) (h : f_X7_payTheSeekers_2 a0 i1 σ = some res) : SV g (d + 2) yy_X7_payTheSeekers 2 [(0, .ref a0), (1, .int i1)] [] σ .null res := by
  unfold f_X7_payTheSeekers_2 at h
  refine lp_ind (P := fun v σ => SV g (d + 2) yy_X7_payTheSeekers 2 [(0, .ref a0), (1, .int v)] [] σ .null res) (fun k2 H2 v σ h => ?_) _ i1 σ h
  refine e_iload_n 1 dX7_payTheSeekers_2 rfl rfl ?_
  refine e_aload_n 0 dX7_payTheSeekers_3 rfl rfl ?_
  refine s_getr dX7_payTheSeekers_4 fl_RX7_35 h_a0 (r_7_0 h_a0).1 ?_
  refine s_geti dX7_payTheSeekers_7 fl_RX7_92 (ka_1 (r_7_0 (w := 0) h_a0).2) ?_
  refine e_icmp_ge 62 dX7_payTheSeekers_10 (by decide) (fun c1 => ?_) (fun c1 => ?_)
  · rw [if_pos c1] at h
    obtain rfl := Option.some.inj h
    exact s_ret rfl rfl dX7_payTheSeekers_62
  · rw [if_neg c1] at h
    refine e_aload_n 0 dX7_payTheSeekers_13 rfl rfl ?_
    refine s_getr dX7_payTheSeekers_14 fl_RX7_12 h_a0 (r_7_1 h_a0).1 ?_
    refine e_iload_n 1 dX7_payTheSeekers_17 rfl rfl ?_
    obtain ⟨r4, σ3, q2, h⟩ := bd_some h
    refine s_callVi [.int v] dX7_payTheSeekers_18 ml_RX7_123 (ka_1 (r_7_1 (w := 0) h_a0).2) ⟨_, rfl, by decide⟩ rfl (v_X2_isIn (d + 1) (ka_1 (r_7_1 (w := 0) h_a0).2) q2) (Nat.le_of_ble_eq_true rfl) ?_
    refine e_if_eq 56 dX7_payTheSeekers_21 (by decide) (fun c5 => ?_) (fun c5 => ?_)
    · rw [if_pos c5] at h
      obtain ⟨x6, q7, h⟩ := lt_some h
      refine e_iinc (v := x6) (L' := [(0, .ref a0), (1, .int x6)]) 1 dX7_payTheSeekers_56 rfl q7.symm (by decide) rfl ?_
      refine e_goto 2 dX7_payTheSeekers_59 (by decide) ?_
      refine s_pick (L' := [(0, .ref a0), (1, .int x6)]) [0, 1] rfl ?_
      exact H2 x6 σ3 h
    · rw [if_neg c5] at h
      refine e_aload_n 0 dX7_payTheSeekers_24 rfl rfl ?_
      refine s_getr dX7_payTheSeekers_25 fl_RX7_12 h_a0 (r_7_1 h_a0).1 ?_
      refine s_getr dX7_payTheSeekers_28 fl_RX7_133 (ka_1 (r_7_1 (w := 0) h_a0).2) (r_2_3 (ka_1 (r_7_1 (w := 0) h_a0).2)).1 ?_
      refine e_iload_n 1 dX7_payTheSeekers_31 rfl rfl ?_
      obtain ⟨q8, h⟩ := gd_some h
      refine s_iald dX7_payTheSeekers_32 (r_2_3 (w := 0) (ka_1 (r_7_1 (w := 0) h_a0).2)).2 q8 ?_
      refine e_if_le 56 dX7_payTheSeekers_33 (by decide) (fun c9 => ?_) (fun c9 => ?_)
      · rw [if_pos c9] at h
        obtain ⟨x10, q11, h⟩ := lt_some h
        refine e_iinc (v := x10) (L' := [(0, .ref a0), (1, .int x10)]) 1 dX7_payTheSeekers_56 rfl q11.symm (by decide) rfl ?_
        refine e_goto 2 dX7_payTheSeekers_59 (by decide) ?_
        refine s_pick (L' := [(0, .ref a0), (1, .int x10)]) [0, 1] rfl ?_
        exact H2 x10 σ3 h
      · rw [if_neg c9] at h
        refine e_aload_n 0 dX7_payTheSeekers_36 rfl rfl ?_
        refine e_iload_n 1 dX7_payTheSeekers_37 rfl rfl ?_
        obtain ⟨r14, σ13, q12, h⟩ := bd_some h
        refine s_callVi [.int v] dX7_payTheSeekers_38 ml_RX7_176 h_a0 ⟨_, rfl, by decide⟩ rfl (v_X7_firstSeeker (d + 1) h_a0 q12) (Nat.le_of_ble_eq_true rfl) ?_
        refine e_istore_n (L' := [(0, .ref a0), (1, .int v), (2, .int r14)]) dX7_payTheSeekers_41 rfl (by decide) rfl ?_
        refine e_iload_n 2 dX7_payTheSeekers_42 rfl rfl ?_
        refine e_if_lt 56 dX7_payTheSeekers_43 (by decide) (fun c15 => ?_) (fun c15 => ?_)
        · rw [if_pos c15] at h
          obtain ⟨x16, q17, h⟩ := lt_some h
          refine e_iinc (v := x16) (L' := [(0, .ref a0), (1, .int x16), (2, .int r14)]) 1 dX7_payTheSeekers_56 rfl q17.symm (by decide) rfl ?_
          refine e_goto 2 dX7_payTheSeekers_59 (by decide) ?_
          refine s_pick (L' := [(0, .ref a0), (1, .int x16)]) [0, 1] rfl ?_
          exact H2 x16 σ13 h
        · rw [if_neg c15] at h
          refine e_aload_n 0 dX7_payTheSeekers_46 rfl rfl ?_
          refine s_getr dX7_payTheSeekers_47 fl_RX7_12 h_a0 (r_7_1 h_a0).1 ?_
          refine e_iload_n 1 dX7_payTheSeekers_50 rfl rfl ?_
          refine e_iload_n 2 dX7_payTheSeekers_51 rfl rfl ?_
          refine e_iconst (v := (1 : Int32)) dX7_payTheSeekers_52 (by decide) ?_
          obtain ⟨σ19, q18, h⟩ := bv_some h
          refine s_callVv [.int v, .int r14, .int (1 : Int32)] dX7_payTheSeekers_53 ml_RX7_179 (ka_1 (r_7_1 (w := 0) h_a0).2) rfl rfl (v_X2_give (d + 0) (ka_1 (r_7_1 (w := 0) h_a0).2) q18) (Nat.le_of_ble_eq_true rfl) ?_
          obtain ⟨x20, q21, h⟩ := lt_some h
          refine e_iinc (v := x20) (L' := [(0, .ref a0), (1, .int x20), (2, .int r14)]) 1 dX7_payTheSeekers_56 rfl q21.symm (by decide) rfl ?_
          refine e_goto 2 dX7_payTheSeekers_59 (by decide) ?_
          refine s_pick (L' := [(0, .ref a0), (1, .int x20)]) [0, 1] rfl ?_
          exact H2 x20 σ19 h
def f_X7_payTheSeekers (a0 : Nat) (σ : mm_S) : Option (mm_S) :=
    f_X7_payTheSeekers_2 a0 (0 : Int32) σ
theorem v_X7_payTheSeekers {g : mm_G} (d : Nat) {a0 : Nat} {σ : mm_S} {res : mm_S} (h_a0 : (mm_K a0).1 = 7) (h : f_X7_payTheSeekers a0 σ = some res) : SM g (d + 2) yy_X7_payTheSeekers [.ref a0] σ .null res := by
  refine s_of (by decide) (Nat.le_of_ble_eq_true rfl) (L := [(0, .ref a0)]) rfl ?_
  unfold f_X7_payTheSeekers at h
  refine e_iconst (v := (0 : Int32)) dX7_payTheSeekers_0 (by decide) ?_
  refine e_istore_n (L' := [(0, .ref a0), (1, .int (0 : Int32))]) dX7_payTheSeekers_1 rfl (by decide) rfl ?_
  refine s_pick (L' := [(0, .ref a0), (1, .int (0 : Int32))]) [0, 1] rfl ?_
  exact v_X7_payTheSeekers_2 d h_a0 h
abbrev yy_X7_passHours : mm_Y := (yX7_passHours, cX7_passHours, 3, none)
theorem dX7_passHours_0 : decode cX7_passHours 0 = .ok (.iconst 0, 1) := by decide +kernel
theorem dX7_passHours_1 : decode cX7_passHours 1 = .ok (.istore_n 2, 1) := by decide +kernel
theorem dX7_passHours_2 : decode cX7_passHours 2 = .ok (.iload_n 2, 1) := by decide +kernel
theorem dX7_passHours_3 : decode cX7_passHours 3 = .ok (.iload_n 1, 1) := by decide +kernel
theorem dX7_passHours_4 : decode cX7_passHours 4 = .ok (.if_icmp .ge 38, 3) := by decide +kernel
theorem dX7_passHours_7 : decode cX7_passHours 7 = .ok (.aload_n 0, 1) := by decide +kernel
theorem dX7_passHours_8 : decode cX7_passHours 8 = .ok (.invokevirtual 73, 3) := by decide +kernel
theorem dX7_passHours_11 : decode cX7_passHours 11 = .ok (.aload_n 0, 1) := by decide +kernel
theorem dX7_passHours_12 : decode cX7_passHours 12 = .ok (.invokevirtual 76, 3) := by decide +kernel
theorem dX7_passHours_15 : decode cX7_passHours 15 = .ok (.aload_n 0, 1) := by decide +kernel
theorem dX7_passHours_16 : decode cX7_passHours 16 = .ok (.invokevirtual 79, 3) := by decide +kernel
theorem dX7_passHours_19 : decode cX7_passHours 19 = .ok (.aload_n 0, 1) := by decide +kernel
theorem dX7_passHours_20 : decode cX7_passHours 20 = .ok (.invokevirtual 82, 3) := by decide +kernel
theorem dX7_passHours_23 : decode cX7_passHours 23 = .ok (.aload_n 0, 1) := by decide +kernel
theorem dX7_passHours_24 : decode cX7_passHours 24 = .ok (.getfield 12, 3) := by decide +kernel
theorem dX7_passHours_27 : decode cX7_passHours 27 = .ok (.dup, 1) := by decide +kernel
theorem dX7_passHours_28 : decode cX7_passHours 28 = .ok (.getfield 85, 3) := by decide +kernel
theorem dX7_passHours_31 : decode cX7_passHours 31 = .ok (.iconst 1, 1) := by decide +kernel
theorem dX7_passHours_32 : decode cX7_passHours 32 = .ok (.iadd, 1) := by decide +kernel
theorem dX7_passHours_33 : decode cX7_passHours 33 = .ok (.putfield 85, 3) := by decide +kernel
theorem dX7_passHours_36 : decode cX7_passHours 36 = .ok (.iinc 2 1, 3) := by decide +kernel
theorem dX7_passHours_39 : decode cX7_passHours 39 = .ok (.goto (-37), 3) := by decide +kernel
theorem dX7_passHours_42 : decode cX7_passHours 42 = .ok (.return_, 1) := by decide +kernel
def f_X7_passHours_2 (a0 : Nat) (i1 : Int32) (i2 : Int32) (σ : mm_S) : Option (mm_S) :=
  lp lpN (fun (k2 : (Int32) → mm_S → Option (mm_S)) (v : Int32) (σ : mm_S) =>
    if i1 ≤ v then
      some σ
    else
      bv (f_X7_goIn a0 σ) fun σ3 =>
      bv (f_X7_lookForOthers a0 σ3) fun σ5 =>
      bv (f_X7_sleepOrTire a0 σ5) fun σ7 =>
      bv (f_X7_payTheSeekers a0 σ7) fun σ9 =>
      lt (su_i σ9 201 0 ((σ9.1 201 0) + (1 : Int32))) fun σ10 =>
      lt (v + Int32.ofInt (1)) fun x12 =>
      k2 x12 σ10) i2 σ
theorem v_X7_passHours_2 {g : mm_G} (d : Nat) {a0 : Nat} {i1 : Int32} {i2 : Int32} {σ : mm_S} {res : mm_S}  (h_a0 : (mm_K a0).1 = 7) (h : f_X7_passHours_2 a0 i1 i2 σ = some res) : SV g (d + 4) yy_X7_passHours 2 [(0, .ref a0), (1, .int i1), (2, .int i2)] [] σ .null res := by
  unfold f_X7_passHours_2 at h
  refine lp_ind (P := fun v σ => SV g (d + 4) yy_X7_passHours 2 [(0, .ref a0), (1, .int i1), (2, .int v)] [] σ .null res) (fun k2 H2 v σ h => ?_) _ i2 σ h
  refine e_iload_n 2 dX7_passHours_2 rfl rfl ?_
  refine e_iload_n 1 dX7_passHours_3 rfl rfl ?_
  refine e_icmp_ge 42 dX7_passHours_4 (by decide) (fun c1 => ?_) (fun c1 => ?_)
  · rw [if_pos c1] at h
    obtain rfl := Option.some.inj h
    exact s_ret rfl rfl dX7_passHours_42
  · rw [if_neg c1] at h
    refine e_aload_n 0 dX7_passHours_7 rfl rfl ?_
    obtain ⟨σ3, q2, h⟩ := bv_some h
    refine s_callVv [] dX7_passHours_8 ml_RX7_73 h_a0 rfl rfl (v_X7_goIn (d + 2) h_a0 q2) (Nat.le_of_ble_eq_true rfl) ?_
    refine e_aload_n 0 dX7_passHours_11 rfl rfl ?_
    obtain ⟨σ5, q4, h⟩ := bv_some h
    refine s_callVv [] dX7_passHours_12 ml_RX7_76 h_a0 rfl rfl (v_X7_lookForOthers (d + 0) h_a0 q4) (Nat.le_of_ble_eq_true rfl) ?_
    refine e_aload_n 0 dX7_passHours_15 rfl rfl ?_
    obtain ⟨σ7, q6, h⟩ := bv_some h
    refine s_callVv [] dX7_passHours_16 ml_RX7_79 h_a0 rfl rfl (v_X7_sleepOrTire (d + 1) h_a0 q6) (Nat.le_of_ble_eq_true rfl) ?_
    refine e_aload_n 0 dX7_passHours_19 rfl rfl ?_
    obtain ⟨σ9, q8, h⟩ := bv_some h
    refine s_callVv [] dX7_passHours_20 ml_RX7_82 h_a0 rfl rfl (v_X7_payTheSeekers (d + 1) h_a0 q8) (Nat.le_of_ble_eq_true rfl) ?_
    refine e_aload_n 0 dX7_passHours_23 rfl rfl ?_
    refine s_getr dX7_passHours_24 fl_RX7_12 h_a0 (r_7_1 h_a0).1 ?_
    refine e_dup dX7_passHours_27 rfl ?_
    refine s_geti dX7_passHours_28 fl_RX7_85 (ka_1 (r_7_1 (w := 0) h_a0).2) ?_
    refine e_iconst (v := (1 : Int32)) dX7_passHours_31 (by decide) ?_
    refine e_iadd dX7_passHours_32 ?_
    refine s_puti dX7_passHours_33 fl_RX7_85 (ka_1 (r_7_1 (w := 0) h_a0).2) rfl rfl rfl ?_
    obtain ⟨σ10, q11, h⟩ := lt_some h
    refine s_nms q11 ?_
    obtain ⟨x12, q13, h⟩ := lt_some h
    refine e_iinc (v := x12) (L' := [(0, .ref a0), (1, .int i1), (2, .int x12)]) 2 dX7_passHours_36 rfl q13.symm (by decide) rfl ?_
    refine e_goto 2 dX7_passHours_39 (by decide) ?_
    refine s_pick (L' := [(0, .ref a0), (1, .int i1), (2, .int x12)]) [0, 1, 2] rfl ?_
    exact H2 x12 σ10 h
def f_X7_passHours (a0 : Nat) (i1 : Int32) (σ : mm_S) : Option (mm_S) :=
    f_X7_passHours_2 a0 i1 (0 : Int32) σ
theorem v_X7_passHours {g : mm_G} (d : Nat) {a0 : Nat} {i1 : Int32} {σ : mm_S} {res : mm_S} (h_a0 : (mm_K a0).1 = 7) (h : f_X7_passHours a0 i1 σ = some res) : SM g (d + 4) yy_X7_passHours [.ref a0, .int i1] σ .null res := by
  refine s_of (by decide) (Nat.le_of_ble_eq_true rfl) (L := [(0, .ref a0), (1, .int i1)]) rfl ?_
  unfold f_X7_passHours at h
  refine e_iconst (v := (0 : Int32)) dX7_passHours_0 (by decide) ?_
  refine e_istore_n (L' := [(0, .ref a0), (1, .int i1), (2, .int (0 : Int32))]) dX7_passHours_1 rfl (by decide) rfl ?_
  refine s_pick (L' := [(0, .ref a0), (1, .int i1), (2, .int (0 : Int32))]) [0, 1, 2] rfl ?_
  exact v_X7_passHours_2 d h_a0 h
abbrev yy_X7_nextDraw : mm_Y := (yX7_nextDraw, cX7_nextDraw, 1, (some .int))
theorem dX7_nextDraw_0 : decode cX7_nextDraw 0 = .ok (.aload_n 0, 1) := by decide +kernel
theorem dX7_nextDraw_1 : decode cX7_nextDraw 1 = .ok (.aload_n 0, 1) := by decide +kernel
theorem dX7_nextDraw_2 : decode cX7_nextDraw 2 = .ok (.getfield 95, 3) := by decide +kernel
theorem dX7_nextDraw_5 : decode cX7_nextDraw 5 = .ok (.i2l, 1) := by decide +kernel
theorem dX7_nextDraw_6 : decode cX7_nextDraw 6 = .ok (.ldc2_w 98, 3) := by decide +kernel
theorem dX7_nextDraw_9 : decode cX7_nextDraw 9 = .ok (.lmul, 1) := by decide +kernel
theorem dX7_nextDraw_10 : decode cX7_nextDraw 10 = .ok (.ldc2_w 100, 3) := by decide +kernel
theorem dX7_nextDraw_13 : decode cX7_nextDraw 13 = .ok (.ladd, 1) := by decide +kernel
theorem dX7_nextDraw_14 : decode cX7_nextDraw 14 = .ok (.ldc2_w 102, 3) := by decide +kernel
theorem dX7_nextDraw_17 : decode cX7_nextDraw 17 = .ok (.land, 1) := by decide +kernel
theorem dX7_nextDraw_18 : decode cX7_nextDraw 18 = .ok (.l2i, 1) := by decide +kernel
theorem dX7_nextDraw_19 : decode cX7_nextDraw 19 = .ok (.putfield 95, 3) := by decide +kernel
theorem dX7_nextDraw_22 : decode cX7_nextDraw 22 = .ok (.aload_n 0, 1) := by decide +kernel
theorem dX7_nextDraw_23 : decode cX7_nextDraw 23 = .ok (.getfield 95, 3) := by decide +kernel
theorem dX7_nextDraw_26 : decode cX7_nextDraw 26 = .ok (.ldc 104, 2) := by decide +kernel
theorem dX7_nextDraw_28 : decode cX7_nextDraw 28 = .ok (.idiv, 1) := by decide +kernel
theorem dX7_nextDraw_29 : decode cX7_nextDraw 29 = .ok (.ireturn, 1) := by decide +kernel
def f_X7_nextDraw (a0 : Nat) (σ : mm_S) : Option (Int32 × mm_S) :=
    lt (su_i σ a0 7 ((((((σ.1 a0 7) : Int32).toInt64 * (1103515245 : Int64)) + (12345 : Int64)) &&& (2147483647 : Int64)) : Int64).toInt32) fun σ3 =>
    some (((σ3.1 a0 7) / (65536 : Int32)), σ3)
theorem v_X7_nextDraw {g : mm_G} (d : Nat) {a0 : Nat} {σ : mm_S} {res : Int32 × mm_S} (h_a0 : (mm_K a0).1 = 7) (h : f_X7_nextDraw a0 σ = some res) : SM g (d + 0) yy_X7_nextDraw [.ref a0] σ (.int res.1) res.2 := by
  refine s_of (by decide) (Nat.le_of_ble_eq_true rfl) (L := [(0, .ref a0)]) rfl ?_
  unfold f_X7_nextDraw at h
  refine e_aload_n 0 dX7_nextDraw_0 rfl rfl ?_
  refine e_aload_n 0 dX7_nextDraw_1 rfl rfl ?_
  refine s_geti dX7_nextDraw_2 fl_RX7_95 h_a0 ?_
  refine e_i2l dX7_nextDraw_5 ?_
  refine e_ldc2 dX7_nextDraw_6 co_RX7_98 ?_
  refine e_lmul dX7_nextDraw_9 ?_
  refine e_ldc2 dX7_nextDraw_10 co_RX7_100 ?_
  refine e_ladd dX7_nextDraw_13 ?_
  refine e_ldc2 dX7_nextDraw_14 co_RX7_102 ?_
  refine e_land dX7_nextDraw_17 ?_
  refine e_l2i dX7_nextDraw_18 ?_
  refine s_puti dX7_nextDraw_19 fl_RX7_95 h_a0 rfl rfl rfl ?_
  obtain ⟨σ3, q4, h⟩ := lt_some h
  refine s_nms q4 ?_
  refine e_aload_n 0 dX7_nextDraw_22 rfl rfl ?_
  refine s_geti dX7_nextDraw_23 fl_RX7_95 h_a0 ?_
  refine e_ldc dX7_nextDraw_26 co_RX7_104 ?_
  refine e_idiv dX7_nextDraw_28 (by decide) ?_
  obtain rfl := Option.some.inj h
  exact s_ret rfl ⟨_, rfl, rfl⟩ dX7_nextDraw_29
abbrev yy_X7_drawStranger : mm_Y := (yX7_drawStranger, cX7_drawStranger, 2, none)
theorem dX7_drawStranger_0 : decode cX7_drawStranger 0 = .ok (.aload_n 0, 1) := by decide +kernel
theorem dX7_drawStranger_1 : decode cX7_drawStranger 1 = .ok (.iconst (-1), 1) := by decide +kernel
theorem dX7_drawStranger_2 : decode cX7_drawStranger 2 = .ok (.putfield 57, 3) := by decide +kernel
theorem dX7_drawStranger_5 : decode cX7_drawStranger 5 = .ok (.aload_n 0, 1) := by decide +kernel
theorem dX7_drawStranger_6 : decode cX7_drawStranger 6 = .ok (.invokevirtual 88, 3) := by decide +kernel
theorem dX7_drawStranger_9 : decode cX7_drawStranger 9 = .ok (.bipush 100, 2) := by decide +kernel
theorem dX7_drawStranger_11 : decode cX7_drawStranger 11 = .ok (.irem, 1) := by decide +kernel
theorem dX7_drawStranger_12 : decode cX7_drawStranger 12 = .ok (.iload_n 1, 1) := by decide +kernel
theorem dX7_drawStranger_13 : decode cX7_drawStranger 13 = .ok (.if_icmp .ge 29, 3) := by decide +kernel
theorem dX7_drawStranger_16 : decode cX7_drawStranger 16 = .ok (.aload_n 0, 1) := by decide +kernel
theorem dX7_drawStranger_17 : decode cX7_drawStranger 17 = .ok (.getfield 35, 3) := by decide +kernel
theorem dX7_drawStranger_20 : decode cX7_drawStranger 20 = .ok (.getfield 92, 3) := by decide +kernel
theorem dX7_drawStranger_23 : decode cX7_drawStranger 23 = .ok (.ifCond .le 19, 3) := by decide +kernel
theorem dX7_drawStranger_26 : decode cX7_drawStranger 26 = .ok (.aload_n 0, 1) := by decide +kernel
theorem dX7_drawStranger_27 : decode cX7_drawStranger 27 = .ok (.aload_n 0, 1) := by decide +kernel
theorem dX7_drawStranger_28 : decode cX7_drawStranger 28 = .ok (.invokevirtual 88, 3) := by decide +kernel
theorem dX7_drawStranger_31 : decode cX7_drawStranger 31 = .ok (.aload_n 0, 1) := by decide +kernel
theorem dX7_drawStranger_32 : decode cX7_drawStranger 32 = .ok (.getfield 35, 3) := by decide +kernel
theorem dX7_drawStranger_35 : decode cX7_drawStranger 35 = .ok (.getfield 92, 3) := by decide +kernel
theorem dX7_drawStranger_38 : decode cX7_drawStranger 38 = .ok (.irem, 1) := by decide +kernel
theorem dX7_drawStranger_39 : decode cX7_drawStranger 39 = .ok (.putfield 57, 3) := by decide +kernel
theorem dX7_drawStranger_42 : decode cX7_drawStranger 42 = .ok (.return_, 1) := by decide +kernel
def f_X7_drawStranger (a0 : Nat) (i1 : Int32) (σ : mm_S) : Option (mm_S) :=
    lt (su_i σ a0 5 (-1 : Int32)) fun σ14 =>
    bd (f_X7_nextDraw a0 σ14) fun r18 σ17 =>
    if i1 ≤ (r18 - r18 / (100 : Int32) * (100 : Int32)) then
      some σ17
    else
      if (σ17.1 27 3) ≤ 0 then
        some σ17
      else
        bd (f_X7_nextDraw a0 σ17) fun r23 σ22 =>
        gq (σ22.1 27 3) <|
        lt (su_i σ22 a0 5 (r23 - r23 / (σ22.1 27 3) * (σ22.1 27 3))) fun σ25 =>
        some σ25
theorem v_X7_drawStranger {g : mm_G} (d : Nat) {a0 : Nat} {i1 : Int32} {σ : mm_S} {res : mm_S} (h_a0 : (mm_K a0).1 = 7) (h : f_X7_drawStranger a0 i1 σ = some res) : SM g (d + 1) yy_X7_drawStranger [.ref a0, .int i1] σ .null res := by
  refine s_of (by decide) (Nat.le_of_ble_eq_true rfl) (L := [(0, .ref a0), (1, .int i1)]) rfl ?_
  unfold f_X7_drawStranger at h
  refine e_aload_n 0 dX7_drawStranger_0 rfl rfl ?_
  refine e_iconst (v := (-1 : Int32)) dX7_drawStranger_1 (by decide) ?_
  refine s_puti dX7_drawStranger_2 fl_RX7_57 h_a0 rfl rfl rfl ?_
  obtain ⟨σ14, q15, h⟩ := lt_some h
  refine s_nms q15 ?_
  refine e_aload_n 0 dX7_drawStranger_5 rfl rfl ?_
  obtain ⟨r18, σ17, q16, h⟩ := bd_some h
  refine s_callVi [] dX7_drawStranger_6 ml_RX7_88 h_a0 ⟨_, rfl, by decide⟩ rfl (v_X7_nextDraw (d + 0) h_a0 q16) (Nat.le_of_ble_eq_true rfl) ?_
  refine e_bipush (v := (100 : Int32)) dX7_drawStranger_9 (by decide) ?_
  refine e_irem dX7_drawStranger_11 (by decide) ?_
  refine e_iload_n 1 dX7_drawStranger_12 rfl rfl ?_
  refine e_icmp_ge 42 dX7_drawStranger_13 (by decide) (fun c19 => ?_) (fun c19 => ?_)
  · rw [if_pos c19] at h
    obtain rfl := Option.some.inj h
    exact s_ret rfl rfl dX7_drawStranger_42
  · rw [if_neg c19] at h
    refine e_aload_n 0 dX7_drawStranger_16 rfl rfl ?_
    refine s_getr dX7_drawStranger_17 fl_RX7_35 h_a0 (r_7_0 h_a0).1 ?_
    refine s_geti dX7_drawStranger_20 fl_RX7_92 (ka_1 (r_7_0 (w := 0) h_a0).2) ?_
    refine e_if_le 42 dX7_drawStranger_23 (by decide) (fun c20 => ?_) (fun c20 => ?_)
    · rw [if_pos c20] at h
      obtain rfl := Option.some.inj h
      exact s_ret rfl rfl dX7_drawStranger_42
    · rw [if_neg c20] at h
      refine e_aload_n 0 dX7_drawStranger_26 rfl rfl ?_
      refine e_aload_n 0 dX7_drawStranger_27 rfl rfl ?_
      obtain ⟨r23, σ22, q21, h⟩ := bd_some h
      refine s_callVi [] dX7_drawStranger_28 ml_RX7_88 h_a0 ⟨_, rfl, by decide⟩ rfl (v_X7_nextDraw (d + 0) h_a0 q21) (Nat.le_of_ble_eq_true rfl) ?_
      refine e_aload_n 0 dX7_drawStranger_31 rfl rfl ?_
      refine s_getr dX7_drawStranger_32 fl_RX7_35 h_a0 (r_7_0 h_a0).1 ?_
      refine s_geti dX7_drawStranger_35 fl_RX7_92 (ka_1 (r_7_0 (w := 0) h_a0).2) ?_
      obtain ⟨q24, h⟩ := gq_some h
      refine e_irem dX7_drawStranger_38 q24 ?_
      refine s_puti dX7_drawStranger_39 fl_RX7_57 h_a0 rfl rfl rfl ?_
      obtain ⟨σ25, q26, h⟩ := lt_some h
      refine s_nms q26 ?_
      obtain rfl := Option.some.inj h
      exact s_ret rfl rfl dX7_drawStranger_42
