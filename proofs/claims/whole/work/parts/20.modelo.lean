abbrev yy_X10_findsRow : mm_Y := (yX10_findsRow, cX10_findsRow, 2, none)
theorem dX10_findsRow_0 : decode cX10_findsRow 0 = .ok (.aload_n 0, 1) := by decide +kernel
theorem dX10_findsRow_1 : decode cX10_findsRow 1 = .ok (.iconst (-1), 1) := by decide +kernel
theorem dX10_findsRow_2 : decode cX10_findsRow 2 = .ok (.putfield 402, 3) := by decide +kernel
theorem dX10_findsRow_5 : decode cX10_findsRow 5 = .ok (.aload_n 0, 1) := by decide +kernel
theorem dX10_findsRow_6 : decode cX10_findsRow 6 = .ok (.iconst 0, 1) := by decide +kernel
theorem dX10_findsRow_7 : decode cX10_findsRow 7 = .ok (.putfield 405, 3) := by decide +kernel
theorem dX10_findsRow_10 : decode cX10_findsRow 10 = .ok (.iconst 0, 1) := by decide +kernel
theorem dX10_findsRow_11 : decode cX10_findsRow 11 = .ok (.istore_n 1, 1) := by decide +kernel
theorem dX10_findsRow_12 : decode cX10_findsRow 12 = .ok (.aload_n 0, 1) := by decide +kernel
theorem dX10_findsRow_13 : decode cX10_findsRow 13 = .ok (.getfield 67, 3) := by decide +kernel
theorem dX10_findsRow_16 : decode cX10_findsRow 16 = .ok (.iconst 0, 1) := by decide +kernel
theorem dX10_findsRow_17 : decode cX10_findsRow 17 = .ok (.iconst (-1), 1) := by decide +kernel
theorem dX10_findsRow_18 : decode cX10_findsRow 18 = .ok (.iastore, 1) := by decide +kernel
theorem dX10_findsRow_19 : decode cX10_findsRow 19 = .ok (.iload_n 1, 1) := by decide +kernel
theorem dX10_findsRow_20 : decode cX10_findsRow 20 = .ok (.ifCond .lt 101, 3) := by decide +kernel
theorem dX10_findsRow_23 : decode cX10_findsRow 23 = .ok (.iload_n 1, 1) := by decide +kernel
theorem dX10_findsRow_24 : decode cX10_findsRow 24 = .ok (.aload_n 0, 1) := by decide +kernel
theorem dX10_findsRow_25 : decode cX10_findsRow 25 = .ok (.getfield 39, 3) := by decide +kernel
theorem dX10_findsRow_28 : decode cX10_findsRow 28 = .ok (.iconst 3, 1) := by decide +kernel
theorem dX10_findsRow_29 : decode cX10_findsRow 29 = .ok (.iaload, 1) := by decide +kernel
theorem dX10_findsRow_30 : decode cX10_findsRow 30 = .ok (.if_icmp .ne 13, 3) := by decide +kernel
theorem dX10_findsRow_33 : decode cX10_findsRow 33 = .ok (.aload_n 0, 1) := by decide +kernel
theorem dX10_findsRow_34 : decode cX10_findsRow 34 = .ok (.invokevirtual 408, 3) := by decide +kernel
theorem dX10_findsRow_37 : decode cX10_findsRow 37 = .ok (.iinc 1 (-1), 3) := by decide +kernel
theorem dX10_findsRow_40 : decode cX10_findsRow 40 = .ok (.goto (-21), 3) := by decide +kernel
theorem dX10_findsRow_43 : decode cX10_findsRow 43 = .ok (.aload_n 0, 1) := by decide +kernel
theorem dX10_findsRow_44 : decode cX10_findsRow 44 = .ok (.getfield 67, 3) := by decide +kernel
theorem dX10_findsRow_47 : decode cX10_findsRow 47 = .ok (.iload_n 1, 1) := by decide +kernel
theorem dX10_findsRow_48 : decode cX10_findsRow 48 = .ok (.dup2, 1) := by decide +kernel
theorem dX10_findsRow_49 : decode cX10_findsRow 49 = .ok (.iaload, 1) := by decide +kernel
theorem dX10_findsRow_50 : decode cX10_findsRow 50 = .ok (.iconst 1, 1) := by decide +kernel
theorem dX10_findsRow_51 : decode cX10_findsRow 51 = .ok (.iadd, 1) := by decide +kernel
theorem dX10_findsRow_52 : decode cX10_findsRow 52 = .ok (.iastore, 1) := by decide +kernel
theorem dX10_findsRow_53 : decode cX10_findsRow 53 = .ok (.aload_n 0, 1) := by decide +kernel
theorem dX10_findsRow_54 : decode cX10_findsRow 54 = .ok (.getfield 67, 3) := by decide +kernel
theorem dX10_findsRow_57 : decode cX10_findsRow 57 = .ok (.iload_n 1, 1) := by decide +kernel
theorem dX10_findsRow_58 : decode cX10_findsRow 58 = .ok (.iaload, 1) := by decide +kernel
theorem dX10_findsRow_59 : decode cX10_findsRow 59 = .ok (.iload_n 1, 1) := by decide +kernel
theorem dX10_findsRow_60 : decode cX10_findsRow 60 = .ok (.iconst 1, 1) := by decide +kernel
theorem dX10_findsRow_61 : decode cX10_findsRow 61 = .ok (.iadd, 1) := by decide +kernel
theorem dX10_findsRow_62 : decode cX10_findsRow 62 = .ok (.if_icmp .ne 13, 3) := by decide +kernel
theorem dX10_findsRow_65 : decode cX10_findsRow 65 = .ok (.aload_n 0, 1) := by decide +kernel
theorem dX10_findsRow_66 : decode cX10_findsRow 66 = .ok (.getfield 67, 3) := by decide +kernel
theorem dX10_findsRow_69 : decode cX10_findsRow 69 = .ok (.iload_n 1, 1) := by decide +kernel
theorem dX10_findsRow_70 : decode cX10_findsRow 70 = .ok (.dup2, 1) := by decide +kernel
theorem dX10_findsRow_71 : decode cX10_findsRow 71 = .ok (.iaload, 1) := by decide +kernel
theorem dX10_findsRow_72 : decode cX10_findsRow 72 = .ok (.iconst 1, 1) := by decide +kernel
theorem dX10_findsRow_73 : decode cX10_findsRow 73 = .ok (.iadd, 1) := by decide +kernel
theorem dX10_findsRow_74 : decode cX10_findsRow 74 = .ok (.iastore, 1) := by decide +kernel
theorem dX10_findsRow_75 : decode cX10_findsRow 75 = .ok (.aload_n 0, 1) := by decide +kernel
theorem dX10_findsRow_76 : decode cX10_findsRow 76 = .ok (.getfield 67, 3) := by decide +kernel
theorem dX10_findsRow_79 : decode cX10_findsRow 79 = .ok (.iload_n 1, 1) := by decide +kernel
theorem dX10_findsRow_80 : decode cX10_findsRow 80 = .ok (.iaload, 1) := by decide +kernel
theorem dX10_findsRow_81 : decode cX10_findsRow 81 = .ok (.aload_n 0, 1) := by decide +kernel
theorem dX10_findsRow_82 : decode cX10_findsRow 82 = .ok (.iload_n 1, 1) := by decide +kernel
theorem dX10_findsRow_83 : decode cX10_findsRow 83 = .ok (.invokevirtual 302, 3) := by decide +kernel
theorem dX10_findsRow_86 : decode cX10_findsRow 86 = .ok (.ifCond .eq 7, 3) := by decide +kernel
theorem dX10_findsRow_89 : decode cX10_findsRow 89 = .ok (.iconst 0, 1) := by decide +kernel
theorem dX10_findsRow_90 : decode cX10_findsRow 90 = .ok (.goto 9, 3) := by decide +kernel
theorem dX10_findsRow_93 : decode cX10_findsRow 93 = .ok (.aload_n 0, 1) := by decide +kernel
theorem dX10_findsRow_94 : decode cX10_findsRow 94 = .ok (.getfield 39, 3) := by decide +kernel
theorem dX10_findsRow_97 : decode cX10_findsRow 97 = .ok (.iconst 3, 1) := by decide +kernel
theorem dX10_findsRow_98 : decode cX10_findsRow 98 = .ok (.iaload, 1) := by decide +kernel
theorem dX10_findsRow_99 : decode cX10_findsRow 99 = .ok (.if_icmp .le 9, 3) := by decide +kernel
theorem dX10_findsRow_102 : decode cX10_findsRow 102 = .ok (.iinc 1 (-1), 3) := by decide +kernel
theorem dX10_findsRow_105 : decode cX10_findsRow 105 = .ok (.goto (-86), 3) := by decide +kernel
theorem dX10_findsRow_108 : decode cX10_findsRow 108 = .ok (.iinc 1 1, 3) := by decide +kernel
theorem dX10_findsRow_111 : decode cX10_findsRow 111 = .ok (.aload_n 0, 1) := by decide +kernel
theorem dX10_findsRow_112 : decode cX10_findsRow 112 = .ok (.getfield 67, 3) := by decide +kernel
theorem dX10_findsRow_115 : decode cX10_findsRow 115 = .ok (.iload_n 1, 1) := by decide +kernel
theorem dX10_findsRow_116 : decode cX10_findsRow 116 = .ok (.iconst (-1), 1) := by decide +kernel
theorem dX10_findsRow_117 : decode cX10_findsRow 117 = .ok (.iastore, 1) := by decide +kernel
theorem dX10_findsRow_118 : decode cX10_findsRow 118 = .ok (.goto (-99), 3) := by decide +kernel
theorem dX10_findsRow_121 : decode cX10_findsRow 121 = .ok (.return_, 1) := by decide +kernel
def f_X10_findsRow_99 (k19 : (Int32) → mm_S → Option (mm_S)) (a0 : Nat) (i1 : Int32) (s0 : Int32) (s1 : Int32) (σ : mm_S) : Option (mm_S) :=
    if s0 ≤ s1 then
      lt (i1 + Int32.ofInt (1)) fun x2 =>
      gd x2 7 <|
      lt (su_i σ 230 x2.toNatClampNeg (-1 : Int32)) fun σ5 =>
      k19 x2 σ5
    else
      lt (i1 + Int32.ofInt (-1)) fun x7 =>
      k19 x7 σ
theorem v_X10_findsRow_99 {g : mm_G} (d : Nat) {k19 : (Int32) → mm_S → Option (mm_S)} {a0 : Nat} {i1 : Int32} {s0 : Int32} {s1 : Int32} {σ : mm_S} {res : mm_S} (H19 : ∀ v σ, k19 v σ = some res → SV g (d + 2) yy_X10_findsRow 19 [(0, .ref a0), (1, .int v)] [] σ .null res) (h_a0 : (mm_K a0).1 = 10) (h : f_X10_findsRow_99 k19 a0 i1 s0 s1 σ = some res) : SV g (d + 2) yy_X10_findsRow 99 [(0, .ref a0), (1, .int i1)] [.int s1, .int s0] σ .null res := by
  unfold f_X10_findsRow_99 at h
  refine e_icmp_le 108 dX10_findsRow_99 (by decide) (fun c1 => ?_) (fun c1 => ?_)
  · rw [if_pos c1] at h
    obtain ⟨x2, q3, h⟩ := lt_some h
    refine e_iinc (v := x2) (L' := [(0, .ref a0), (1, .int x2)]) 1 dX10_findsRow_108 rfl q3.symm (by decide) rfl ?_
    refine e_aload_n 0 dX10_findsRow_111 rfl rfl ?_
    refine s_getr dX10_findsRow_112 fl_RX10_67 h_a0 (r_10_33 h_a0).1 ?_
    refine e_iload_n 1 dX10_findsRow_115 rfl rfl ?_
    refine e_iconst (v := (-1 : Int32)) dX10_findsRow_116 (by decide) ?_
    obtain ⟨q4, h⟩ := gd_some h
    refine s_iast dX10_findsRow_117 (r_10_33 (w := 0) h_a0).2 q4 ?_
    obtain ⟨σ5, q6, h⟩ := lt_some h
    refine s_nms q6 ?_
    refine e_goto 19 dX10_findsRow_118 (by decide) ?_
    refine s_pick (L' := [(0, .ref a0), (1, .int x2)]) [0, 1] rfl ?_
    exact H19 x2 σ5 h
  · rw [if_neg c1] at h
    obtain ⟨x7, q8, h⟩ := lt_some h
    refine e_iinc (v := x7) (L' := [(0, .ref a0), (1, .int x7)]) 1 dX10_findsRow_102 rfl q8.symm (by decide) rfl ?_
    refine e_goto 19 dX10_findsRow_105 (by decide) ?_
    refine s_pick (L' := [(0, .ref a0), (1, .int x7)]) [0, 1] rfl ?_
    exact H19 x7 σ h
def f_X10_findsRow_75 (k19 : (Int32) → mm_S → Option (mm_S)) (a0 : Nat) (i1 : Int32) (σ : mm_S) : Option (mm_S) :=
    gd i1 7 <|
    bd (f_X10_isIn a0 i1 σ) fun r12 σ11 =>
    if r12 = 0 then
      gd (3 : Int32) 121 <|
      f_X10_findsRow_99 k19 a0 i1 (σ.1 230 i1.toNatClampNeg) (σ11.1 224 (3 : Int32).toNatClampNeg) σ11
    else
      f_X10_findsRow_99 k19 a0 i1 (σ.1 230 i1.toNatClampNeg) (0 : Int32) σ11
theorem v_X10_findsRow_75 {g : mm_G} (d : Nat) {k19 : (Int32) → mm_S → Option (mm_S)} {a0 : Nat} {i1 : Int32} {σ : mm_S} {res : mm_S} (H19 : ∀ v σ, k19 v σ = some res → SV g (d + 2) yy_X10_findsRow 19 [(0, .ref a0), (1, .int v)] [] σ .null res) (h_a0 : (mm_K a0).1 = 10) (h : f_X10_findsRow_75 k19 a0 i1 σ = some res) : SV g (d + 2) yy_X10_findsRow 75 [(0, .ref a0), (1, .int i1)] [] σ .null res := by
  unfold f_X10_findsRow_75 at h
  refine e_aload_n 0 dX10_findsRow_75 rfl rfl ?_
  refine s_getr dX10_findsRow_76 fl_RX10_67 h_a0 (r_10_33 h_a0).1 ?_
  refine e_iload_n 1 dX10_findsRow_79 rfl rfl ?_
  obtain ⟨q9, h⟩ := gd_some h
  refine s_iald dX10_findsRow_80 (r_10_33 (w := 0) h_a0).2 q9 ?_
  refine e_aload_n 0 dX10_findsRow_81 rfl rfl ?_
  refine e_iload_n 1 dX10_findsRow_82 rfl rfl ?_
  obtain ⟨r12, σ11, q10, h⟩ := bd_some h
  refine s_callVi [.int i1] dX10_findsRow_83 ml_RX10_302 h_a0 ⟨_, rfl, by decide⟩ rfl (v_X10_isIn (d + 1) h_a0 q10) (Nat.le_of_ble_eq_true rfl) ?_
  refine e_if_eq 93 dX10_findsRow_86 (by decide) (fun c13 => ?_) (fun c13 => ?_)
  · rw [if_pos c13] at h
    refine e_aload_n 0 dX10_findsRow_93 rfl rfl ?_
    refine s_getr dX10_findsRow_94 fl_RX10_39 h_a0 (r_10_20 h_a0).1 ?_
    refine e_iconst (v := (3 : Int32)) dX10_findsRow_97 (by decide) ?_
    obtain ⟨q14, h⟩ := gd_some h
    refine s_iald dX10_findsRow_98 (r_10_20 (w := 0) h_a0).2 q14 ?_
    refine s_pick (L' := [(0, .ref a0), (1, .int i1)]) [0, 1] rfl ?_
    exact v_X10_findsRow_99 d H19 h_a0 h
  · rw [if_neg c13] at h
    refine e_iconst (v := (0 : Int32)) dX10_findsRow_89 (by decide) ?_
    refine e_goto 99 dX10_findsRow_90 (by decide) ?_
    refine s_pick (L' := [(0, .ref a0), (1, .int i1)]) [0, 1] rfl ?_
    exact v_X10_findsRow_99 d H19 h_a0 h
def f_X10_findsRow_19 (a0 : Nat) (i1 : Int32) (σ : mm_S) : Option (mm_S) :=
  lp lpN (fun (k19 : (Int32) → mm_S → Option (mm_S)) (v : Int32) (σ : mm_S) =>
    if v < 0 then
      some σ
    else
      gd (3 : Int32) 121 <|
      if v = (σ.1 224 (3 : Int32).toNatClampNeg) then
        bv (f_X10_weighsRow a0 σ) fun σ29 =>
        lt (v + Int32.ofInt (-1)) fun x30 =>
        k19 x30 σ29
      else
        gd v 7 <|
        gd v 7 <|
        lt (su_i σ 230 v.toNatClampNeg ((σ.1 230 v.toNatClampNeg) + (1 : Int32))) fun σ20 =>
        gd v 7 <|
        if (σ20.1 230 v.toNatClampNeg) = (v + (1 : Int32)) then
          gd v 7 <|
          gd v 7 <|
          lt (su_i σ20 230 v.toNatClampNeg ((σ20.1 230 v.toNatClampNeg) + (1 : Int32))) fun σ26 =>
          f_X10_findsRow_75 k19 a0 v σ26
        else
          f_X10_findsRow_75 k19 a0 v σ20) i1 σ
theorem v_X10_findsRow_19 {g : mm_G} (d : Nat) {a0 : Nat} {i1 : Int32} {σ : mm_S} {res : mm_S}  (h_a0 : (mm_K a0).1 = 10) (h : f_X10_findsRow_19 a0 i1 σ = some res) : SV g (d + 2) yy_X10_findsRow 19 [(0, .ref a0), (1, .int i1)] [] σ .null res := by
  unfold f_X10_findsRow_19 at h
  refine lp_ind (P := fun v σ => SV g (d + 2) yy_X10_findsRow 19 [(0, .ref a0), (1, .int v)] [] σ .null res) (fun k19 H19 v σ h => ?_) _ i1 σ h
  refine e_iload_n 1 dX10_findsRow_19 rfl rfl ?_
  refine e_if_lt 121 dX10_findsRow_20 (by decide) (fun c15 => ?_) (fun c15 => ?_)
  · rw [if_pos c15] at h
    obtain rfl := Option.some.inj h
    exact s_ret rfl rfl dX10_findsRow_121
  · rw [if_neg c15] at h
    refine e_iload_n 1 dX10_findsRow_23 rfl rfl ?_
    refine e_aload_n 0 dX10_findsRow_24 rfl rfl ?_
    refine s_getr dX10_findsRow_25 fl_RX10_39 h_a0 (r_10_20 h_a0).1 ?_
    refine e_iconst (v := (3 : Int32)) dX10_findsRow_28 (by decide) ?_
    obtain ⟨q16, h⟩ := gd_some h
    refine s_iald dX10_findsRow_29 (r_10_20 (w := 0) h_a0).2 q16 ?_
    refine e_icmp_ne 43 dX10_findsRow_30 (by decide) (fun c17 => ?_) (fun c17 => ?_)
    · rw [if_neg c17] at h
      refine e_aload_n 0 dX10_findsRow_43 rfl rfl ?_
      refine s_getr dX10_findsRow_44 fl_RX10_67 h_a0 (r_10_33 h_a0).1 ?_
      refine e_iload_n 1 dX10_findsRow_47 rfl rfl ?_
      refine e_dup2 dX10_findsRow_48 rfl rfl ?_
      obtain ⟨q18, h⟩ := gd_some h
      refine s_iald dX10_findsRow_49 (r_10_33 (w := 0) h_a0).2 q18 ?_
      refine e_iconst (v := (1 : Int32)) dX10_findsRow_50 (by decide) ?_
      refine e_iadd dX10_findsRow_51 ?_
      obtain ⟨q19, h⟩ := gd_some h
      refine s_iast dX10_findsRow_52 (r_10_33 (w := 0) h_a0).2 q19 ?_
      obtain ⟨σ20, q21, h⟩ := lt_some h
      refine s_nms q21 ?_
      refine e_aload_n 0 dX10_findsRow_53 rfl rfl ?_
      refine s_getr dX10_findsRow_54 fl_RX10_67 h_a0 (r_10_33 h_a0).1 ?_
      refine e_iload_n 1 dX10_findsRow_57 rfl rfl ?_
      obtain ⟨q22, h⟩ := gd_some h
      refine s_iald dX10_findsRow_58 (r_10_33 (w := 0) h_a0).2 q22 ?_
      refine e_iload_n 1 dX10_findsRow_59 rfl rfl ?_
      refine e_iconst (v := (1 : Int32)) dX10_findsRow_60 (by decide) ?_
      refine e_iadd dX10_findsRow_61 ?_
      refine e_icmp_ne 75 dX10_findsRow_62 (by decide) (fun c23 => ?_) (fun c23 => ?_)
      · rw [if_neg c23] at h
        refine s_pick (L' := [(0, .ref a0), (1, .int v)]) [0, 1] rfl ?_
        exact v_X10_findsRow_75 d H19 h_a0 h
      · rw [if_pos c23] at h
        refine e_aload_n 0 dX10_findsRow_65 rfl rfl ?_
        refine s_getr dX10_findsRow_66 fl_RX10_67 h_a0 (r_10_33 h_a0).1 ?_
        refine e_iload_n 1 dX10_findsRow_69 rfl rfl ?_
        refine e_dup2 dX10_findsRow_70 rfl rfl ?_
        obtain ⟨q24, h⟩ := gd_some h
        refine s_iald dX10_findsRow_71 (r_10_33 (w := 0) h_a0).2 q24 ?_
        refine e_iconst (v := (1 : Int32)) dX10_findsRow_72 (by decide) ?_
        refine e_iadd dX10_findsRow_73 ?_
        obtain ⟨q25, h⟩ := gd_some h
        refine s_iast dX10_findsRow_74 (r_10_33 (w := 0) h_a0).2 q25 ?_
        obtain ⟨σ26, q27, h⟩ := lt_some h
        refine s_nms q27 ?_
        refine s_pick (L' := [(0, .ref a0), (1, .int v)]) [0, 1] rfl ?_
        exact v_X10_findsRow_75 d H19 h_a0 h
    · rw [if_pos c17] at h
      refine e_aload_n 0 dX10_findsRow_33 rfl rfl ?_
      obtain ⟨σ29, q28, h⟩ := bv_some h
      refine s_callVv [] dX10_findsRow_34 ml_RX10_408 h_a0 rfl rfl (v_X10_weighsRow (d + 0) h_a0 q28) (Nat.le_of_ble_eq_true rfl) ?_
      obtain ⟨x30, q31, h⟩ := lt_some h
      refine e_iinc (v := x30) (L' := [(0, .ref a0), (1, .int x30)]) 1 dX10_findsRow_37 rfl q31.symm (by decide) rfl ?_
      refine e_goto 19 dX10_findsRow_40 (by decide) ?_
      refine s_pick (L' := [(0, .ref a0), (1, .int x30)]) [0, 1] rfl ?_
      exact H19 x30 σ29 h
def f_X10_findsRow (a0 : Nat) (σ : mm_S) : Option (mm_S) :=
    lt (su_i σ a0 35 (-1 : Int32)) fun σ39 =>
    lt (su_i σ39 a0 36 (0 : Int32)) fun σ41 =>
    gd (0 : Int32) 7 <|
    lt (su_i σ41 230 (0 : Int32).toNatClampNeg (-1 : Int32)) fun σ44 =>
    f_X10_findsRow_19 a0 (0 : Int32) σ44
theorem v_X10_findsRow {g : mm_G} (d : Nat) {a0 : Nat} {σ : mm_S} {res : mm_S} (h_a0 : (mm_K a0).1 = 10) (h : f_X10_findsRow a0 σ = some res) : SM g (d + 2) yy_X10_findsRow [.ref a0] σ .null res := by
  refine s_of (by decide) (Nat.le_of_ble_eq_true rfl) (L := [(0, .ref a0)]) rfl ?_
  unfold f_X10_findsRow at h
  refine e_aload_n 0 dX10_findsRow_0 rfl rfl ?_
  refine e_iconst (v := (-1 : Int32)) dX10_findsRow_1 (by decide) ?_
  refine s_puti dX10_findsRow_2 fl_RX10_402 h_a0 rfl rfl rfl ?_
  obtain ⟨σ39, q40, h⟩ := lt_some h
  refine s_nms q40 ?_
  refine e_aload_n 0 dX10_findsRow_5 rfl rfl ?_
  refine e_iconst (v := (0 : Int32)) dX10_findsRow_6 (by decide) ?_
  refine s_puti dX10_findsRow_7 fl_RX10_405 h_a0 rfl rfl rfl ?_
  obtain ⟨σ41, q42, h⟩ := lt_some h
  refine s_nms q42 ?_
  refine e_iconst (v := (0 : Int32)) dX10_findsRow_10 (by decide) ?_
  refine e_istore_n (L' := [(0, .ref a0), (1, .int (0 : Int32))]) dX10_findsRow_11 rfl (by decide) rfl ?_
  refine e_aload_n 0 dX10_findsRow_12 rfl rfl ?_
  refine s_getr dX10_findsRow_13 fl_RX10_67 h_a0 (r_10_33 h_a0).1 ?_
  refine e_iconst (v := (0 : Int32)) dX10_findsRow_16 (by decide) ?_
  refine e_iconst (v := (-1 : Int32)) dX10_findsRow_17 (by decide) ?_
  obtain ⟨q43, h⟩ := gd_some h
  refine s_iast dX10_findsRow_18 (r_10_33 (w := 0) h_a0).2 q43 ?_
  obtain ⟨σ44, q45, h⟩ := lt_some h
  refine s_nms q45 ?_
  refine s_pick (L' := [(0, .ref a0), (1, .int (0 : Int32))]) [0, 1] rfl ?_
  exact v_X10_findsRow_19 d h_a0 h
abbrev yy_X10_bestRow : mm_Y := (yX10_bestRow, cX10_bestRow, 2, (some .int))
theorem dX10_bestRow_0 : decode cX10_bestRow 0 = .ok (.aload_n 0, 1) := by decide +kernel
theorem dX10_bestRow_1 : decode cX10_bestRow 1 = .ok (.invokevirtual 379, 3) := by decide +kernel
theorem dX10_bestRow_4 : decode cX10_bestRow 4 = .ok (.ifCond .eq 17, 3) := by decide +kernel
theorem dX10_bestRow_7 : decode cX10_bestRow 7 = .ok (.iload_n 1, 1) := by decide +kernel
theorem dX10_bestRow_8 : decode cX10_bestRow 8 = .ok (.i2l, 1) := by decide +kernel
theorem dX10_bestRow_9 : decode cX10_bestRow 9 = .ok (.ldc2_w 411, 3) := by decide +kernel
theorem dX10_bestRow_12 : decode cX10_bestRow 12 = .ok (.ldc2_w 413, 3) := by decide +kernel
theorem dX10_bestRow_15 : decode cX10_bestRow 15 = .ok (.invokestatic 136, 3) := by decide +kernel
theorem dX10_bestRow_18 : decode cX10_bestRow 18 = .ok (.ifCond .ne 6, 3) := by decide +kernel
theorem dX10_bestRow_21 : decode cX10_bestRow 21 = .ok (.bipush (-3), 2) := by decide +kernel
theorem dX10_bestRow_23 : decode cX10_bestRow 23 = .ok (.ireturn, 1) := by decide +kernel
theorem dX10_bestRow_24 : decode cX10_bestRow 24 = .ok (.aload_n 0, 1) := by decide +kernel
theorem dX10_bestRow_25 : decode cX10_bestRow 25 = .ok (.invokevirtual 415, 3) := by decide +kernel
theorem dX10_bestRow_28 : decode cX10_bestRow 28 = .ok (.iload_n 1, 1) := by decide +kernel
theorem dX10_bestRow_29 : decode cX10_bestRow 29 = .ok (.iconst (-1), 1) := by decide +kernel
theorem dX10_bestRow_30 : decode cX10_bestRow 30 = .ok (.if_icmp .ne 10, 3) := by decide +kernel
theorem dX10_bestRow_33 : decode cX10_bestRow 33 = .ok (.aload_n 0, 1) := by decide +kernel
theorem dX10_bestRow_34 : decode cX10_bestRow 34 = .ok (.getfield 402, 3) := by decide +kernel
theorem dX10_bestRow_37 : decode cX10_bestRow 37 = .ok (.goto 22, 3) := by decide +kernel
theorem dX10_bestRow_40 : decode cX10_bestRow 40 = .ok (.aload_n 0, 1) := by decide +kernel
theorem dX10_bestRow_41 : decode cX10_bestRow 41 = .ok (.iload_n 1, 1) := by decide +kernel
theorem dX10_bestRow_42 : decode cX10_bestRow 42 = .ok (.invokevirtual 320, 3) := by decide +kernel
theorem dX10_bestRow_45 : decode cX10_bestRow 45 = .ok (.ifCond .eq 12, 3) := by decide +kernel
theorem dX10_bestRow_48 : decode cX10_bestRow 48 = .ok (.aload_n 0, 1) := by decide +kernel
theorem dX10_bestRow_49 : decode cX10_bestRow 49 = .ok (.getfield 70, 3) := by decide +kernel
theorem dX10_bestRow_52 : decode cX10_bestRow 52 = .ok (.iload_n 1, 1) := by decide +kernel
theorem dX10_bestRow_53 : decode cX10_bestRow 53 = .ok (.iaload, 1) := by decide +kernel
theorem dX10_bestRow_54 : decode cX10_bestRow 54 = .ok (.goto 5, 3) := by decide +kernel
theorem dX10_bestRow_57 : decode cX10_bestRow 57 = .ok (.bipush (-2), 2) := by decide +kernel
theorem dX10_bestRow_59 : decode cX10_bestRow 59 = .ok (.ireturn, 1) := by decide +kernel
def f_X10_bestRow (a0 : Nat) (i1 : Int32) (σ : mm_S) : Option (Int32 × mm_S) :=
    bd (f_X10_isHouse a0 σ) fun r19 σ18 =>
    if r19 = 0 then
      some ((-3 : Int32), σ18)
    else
      bd (f_X10_in (i1 : Int32).toInt64 (-1 : Int64) (5 : Int64) σ18) fun r23 σ22 =>
      if r23 = 0 then
        some ((-3 : Int32), σ22)
      else
        bv (f_X10_findsRow a0 σ22) fun σ26 =>
        if i1 = (-1 : Int32) then
          some ((σ26.1 a0 35), σ26)
        else
          bd (f_X10_isLodger a0 i1 σ26) fun r30 σ29 =>
          if r30 = 0 then
            some ((-2 : Int32), σ29)
          else
            gd i1 6 <|
            some ((σ29.1 231 i1.toNatClampNeg), σ29)
theorem v_X10_bestRow {g : mm_G} (d : Nat) {a0 : Nat} {i1 : Int32} {σ : mm_S} {res : Int32 × mm_S} (h_a0 : (mm_K a0).1 = 10) (h : f_X10_bestRow a0 i1 σ = some res) : SM g (d + 3) yy_X10_bestRow [.ref a0, .int i1] σ (.int res.1) res.2 := by
  refine s_of (by decide) (Nat.le_of_ble_eq_true rfl) (L := [(0, .ref a0), (1, .int i1)]) rfl ?_
  unfold f_X10_bestRow at h
  refine e_aload_n 0 dX10_bestRow_0 rfl rfl ?_
  obtain ⟨r19, σ18, q17, h⟩ := bd_some h
  refine s_callVi [] dX10_bestRow_1 ml_RX10_379 h_a0 ⟨_, rfl, by decide⟩ rfl (v_X10_isHouse (d + 2) h_a0 q17) (Nat.le_of_ble_eq_true rfl) ?_
  refine e_if_eq 21 dX10_bestRow_4 (by decide) (fun c20 => ?_) (fun c20 => ?_)
  · rw [if_pos c20] at h
    refine e_bipush (v := (-3 : Int32)) dX10_bestRow_21 (by decide) ?_
    obtain rfl := Option.some.inj h
    exact s_ret rfl ⟨_, rfl, rfl⟩ dX10_bestRow_23
  · rw [if_neg c20] at h
    refine e_iload_n 1 dX10_bestRow_7 rfl rfl ?_
    refine e_i2l dX10_bestRow_8 ?_
    refine e_ldc2 dX10_bestRow_9 co_RX10_411 ?_
    refine e_ldc2 dX10_bestRow_12 co_RX10_413 ?_
    obtain ⟨r23, σ22, q21, h⟩ := bd_some h
    refine s_callSi [.long (i1 : Int32).toInt64, .long (-1 : Int64), .long (5 : Int64)] dX10_bestRow_15 ml_RX10_136 ⟨_, rfl, by decide⟩ rfl (v_X10_in (d + 2)  q21) (Nat.le_of_ble_eq_true rfl) ?_
    refine e_if_ne 24 dX10_bestRow_18 (by decide) (fun c24 => ?_) (fun c24 => ?_)
    · rw [if_neg c24] at h
      refine e_aload_n 0 dX10_bestRow_24 rfl rfl ?_
      obtain ⟨σ26, q25, h⟩ := bv_some h
      refine s_callVv [] dX10_bestRow_25 ml_RX10_415 h_a0 rfl rfl (v_X10_findsRow (d + 0) h_a0 q25) (Nat.le_of_ble_eq_true rfl) ?_
      refine e_iload_n 1 dX10_bestRow_28 rfl rfl ?_
      refine e_iconst (v := (-1 : Int32)) dX10_bestRow_29 (by decide) ?_
      refine e_icmp_ne 40 dX10_bestRow_30 (by decide) (fun c27 => ?_) (fun c27 => ?_)
      · rw [if_neg c27] at h
        refine e_aload_n 0 dX10_bestRow_40 rfl rfl ?_
        refine e_iload_n 1 dX10_bestRow_41 rfl rfl ?_
        obtain ⟨r30, σ29, q28, h⟩ := bd_some h
        refine s_callVi [.int i1] dX10_bestRow_42 ml_RX10_320 h_a0 ⟨_, rfl, by decide⟩ rfl (v_X10_isLodger (d + 2) h_a0 q28) (Nat.le_of_ble_eq_true rfl) ?_
        refine e_if_eq 57 dX10_bestRow_45 (by decide) (fun c31 => ?_) (fun c31 => ?_)
        · rw [if_pos c31] at h
          refine e_bipush (v := (-2 : Int32)) dX10_bestRow_57 (by decide) ?_
          obtain rfl := Option.some.inj h
          exact s_ret rfl ⟨_, rfl, rfl⟩ dX10_bestRow_59
        · rw [if_neg c31] at h
          refine e_aload_n 0 dX10_bestRow_48 rfl rfl ?_
          refine s_getr dX10_bestRow_49 fl_RX10_70 h_a0 (r_10_34 h_a0).1 ?_
          refine e_iload_n 1 dX10_bestRow_52 rfl rfl ?_
          obtain ⟨q32, h⟩ := gd_some h
          refine s_iald dX10_bestRow_53 (r_10_34 (w := 0) h_a0).2 q32 ?_
          refine e_goto 59 dX10_bestRow_54 (by decide) ?_
          obtain rfl := Option.some.inj h
          exact s_ret rfl ⟨_, rfl, rfl⟩ dX10_bestRow_59
      · rw [if_pos c27] at h
        refine e_aload_n 0 dX10_bestRow_33 rfl rfl ?_
        refine s_geti dX10_bestRow_34 fl_RX10_402 h_a0 ?_
        refine e_goto 59 dX10_bestRow_37 (by decide) ?_
        obtain rfl := Option.some.inj h
        exact s_ret rfl ⟨_, rfl, rfl⟩ dX10_bestRow_59
    · rw [if_pos c24] at h
      refine e_bipush (v := (-3 : Int32)) dX10_bestRow_21 (by decide) ?_
      obtain rfl := Option.some.inj h
      exact s_ret rfl ⟨_, rfl, rfl⟩ dX10_bestRow_23
abbrev yy_X10_forOne : mm_Y := (yX10_forOne, cX10_forOne, 10, (some .int))
theorem dX10_forOne_0 : decode cX10_forOne 0 = .ok (.aload_n 0, 1) := by decide +kernel
theorem dX10_forOne_1 : decode cX10_forOne 1 = .ok (.iload_n 1, 1) := by decide +kernel
theorem dX10_forOne_2 : decode cX10_forOne 2 = .ok (.iload_n 2, 1) := by decide +kernel
theorem dX10_forOne_3 : decode cX10_forOne 3 = .ok (.invokevirtual 325, 3) := by decide +kernel
theorem dX10_forOne_6 : decode cX10_forOne 6 = .ok (.ifCond .eq 34, 3) := by decide +kernel
theorem dX10_forOne_9 : decode cX10_forOne 9 = .ok (.aload_n 0, 1) := by decide +kernel
theorem dX10_forOne_10 : decode cX10_forOne 10 = .ok (.iload_n 2, 1) := by decide +kernel
theorem dX10_forOne_11 : decode cX10_forOne 11 = .ok (.invokevirtual 302, 3) := by decide +kernel
theorem dX10_forOne_14 : decode cX10_forOne 14 = .ok (.ifCond .ne 26, 3) := by decide +kernel
theorem dX10_forOne_17 : decode cX10_forOne 17 = .ok (.iload_n 3, 1) := by decide +kernel
theorem dX10_forOne_18 : decode cX10_forOne 18 = .ok (.i2l, 1) := by decide +kernel
theorem dX10_forOne_19 : decode cX10_forOne 19 = .ok (.lconst 1, 1) := by decide +kernel
theorem dX10_forOne_20 : decode cX10_forOne 20 = .ok (.ldc2_w 418, 3) := by decide +kernel
theorem dX10_forOne_23 : decode cX10_forOne 23 = .ok (.invokestatic 136, 3) := by decide +kernel
theorem dX10_forOne_26 : decode cX10_forOne 26 = .ok (.ifCond .eq 14, 3) := by decide +kernel
theorem dX10_forOne_29 : decode cX10_forOne 29 = .ok (.iload 4, 2) := by decide +kernel
theorem dX10_forOne_31 : decode cX10_forOne 31 = .ok (.i2l, 1) := by decide +kernel
theorem dX10_forOne_32 : decode cX10_forOne 32 = .ok (.lconst 0, 1) := by decide +kernel
theorem dX10_forOne_33 : decode cX10_forOne 33 = .ok (.lconst 1, 1) := by decide +kernel
theorem dX10_forOne_34 : decode cX10_forOne 34 = .ok (.invokestatic 136, 3) := by decide +kernel
theorem dX10_forOne_37 : decode cX10_forOne 37 = .ok (.ifCond .ne 6, 3) := by decide +kernel
theorem dX10_forOne_40 : decode cX10_forOne 40 = .ok (.bipush (-2), 2) := by decide +kernel
theorem dX10_forOne_42 : decode cX10_forOne 42 = .ok (.ireturn, 1) := by decide +kernel
theorem dX10_forOne_43 : decode cX10_forOne 43 = .ok (.aload_n 0, 1) := by decide +kernel
theorem dX10_forOne_44 : decode cX10_forOne 44 = .ok (.iload_n 1, 1) := by decide +kernel
theorem dX10_forOne_45 : decode cX10_forOne 45 = .ok (.invokevirtual 311, 3) := by decide +kernel
theorem dX10_forOne_48 : decode cX10_forOne 48 = .ok (.istore 5, 2) := by decide +kernel
theorem dX10_forOne_50 : decode cX10_forOne 50 = .ok (.iconst (-1), 1) := by decide +kernel
theorem dX10_forOne_51 : decode cX10_forOne 51 = .ok (.istore 6, 2) := by decide +kernel
theorem dX10_forOne_53 : decode cX10_forOne 53 = .ok (.iconst (-1), 1) := by decide +kernel
theorem dX10_forOne_54 : decode cX10_forOne 54 = .ok (.istore 7, 2) := by decide +kernel
theorem dX10_forOne_56 : decode cX10_forOne 56 = .ok (.aload_n 0, 1) := by decide +kernel
theorem dX10_forOne_57 : decode cX10_forOne 57 = .ok (.invokevirtual 393, 3) := by decide +kernel
theorem dX10_forOne_60 : decode cX10_forOne 60 = .ok (.iconst (-1), 1) := by decide +kernel
theorem dX10_forOne_61 : decode cX10_forOne 61 = .ok (.istore 8, 2) := by decide +kernel
theorem dX10_forOne_63 : decode cX10_forOne 63 = .ok (.iload 8, 2) := by decide +kernel
theorem dX10_forOne_65 : decode cX10_forOne 65 = .ok (.aload_n 0, 1) := by decide +kernel
theorem dX10_forOne_66 : decode cX10_forOne 66 = .ok (.getfield 39, 3) := by decide +kernel
theorem dX10_forOne_69 : decode cX10_forOne 69 = .ok (.iconst 3, 1) := by decide +kernel
theorem dX10_forOne_70 : decode cX10_forOne 70 = .ok (.iaload, 1) := by decide +kernel
theorem dX10_forOne_71 : decode cX10_forOne 71 = .ok (.if_icmp .ge 70, 3) := by decide +kernel
theorem dX10_forOne_74 : decode cX10_forOne 74 = .ok (.iload 8, 2) := by decide +kernel
theorem dX10_forOne_76 : decode cX10_forOne 76 = .ok (.iload_n 2, 1) := by decide +kernel
theorem dX10_forOne_77 : decode cX10_forOne 77 = .ok (.if_icmp .ne 6, 3) := by decide +kernel
theorem dX10_forOne_80 : decode cX10_forOne 80 = .ok (.goto 55, 3) := by decide +kernel
theorem dX10_forOne_83 : decode cX10_forOne 83 = .ok (.aload_n 0, 1) := by decide +kernel
theorem dX10_forOne_84 : decode cX10_forOne 84 = .ok (.getfield 39, 3) := by decide +kernel
theorem dX10_forOne_87 : decode cX10_forOne 87 = .ok (.bipush 11, 2) := by decide +kernel
theorem dX10_forOne_89 : decode cX10_forOne 89 = .ok (.iconst 5, 1) := by decide +kernel
theorem dX10_forOne_90 : decode cX10_forOne 90 = .ok (.iload_n 2, 1) := by decide +kernel
theorem dX10_forOne_91 : decode cX10_forOne 91 = .ok (.imul, 1) := by decide +kernel
theorem dX10_forOne_92 : decode cX10_forOne 92 = .ok (.iadd, 1) := by decide +kernel
theorem dX10_forOne_93 : decode cX10_forOne 93 = .ok (.iconst 3, 1) := by decide +kernel
theorem dX10_forOne_94 : decode cX10_forOne 94 = .ok (.iadd, 1) := by decide +kernel
theorem dX10_forOne_95 : decode cX10_forOne 95 = .ok (.iload 8, 2) := by decide +kernel
theorem dX10_forOne_97 : decode cX10_forOne 97 = .ok (.iastore, 1) := by decide +kernel
theorem dX10_forOne_98 : decode cX10_forOne 98 = .ok (.aload_n 0, 1) := by decide +kernel
theorem dX10_forOne_99 : decode cX10_forOne 99 = .ok (.iload_n 3, 1) := by decide +kernel
theorem dX10_forOne_100 : decode cX10_forOne 100 = .ok (.invokevirtual 396, 3) := by decide +kernel
theorem dX10_forOne_103 : decode cX10_forOne 103 = .ok (.aload_n 0, 1) := by decide +kernel
theorem dX10_forOne_104 : decode cX10_forOne 104 = .ok (.iload_n 1, 1) := by decide +kernel
theorem dX10_forOne_105 : decode cX10_forOne 105 = .ok (.invokevirtual 311, 3) := by decide +kernel
theorem dX10_forOne_108 : decode cX10_forOne 108 = .ok (.iload 5, 2) := by decide +kernel
theorem dX10_forOne_110 : decode cX10_forOne 110 = .ok (.isub, 1) := by decide +kernel
theorem dX10_forOne_111 : decode cX10_forOne 111 = .ok (.istore 9, 2) := by decide +kernel
theorem dX10_forOne_113 : decode cX10_forOne 113 = .ok (.aload_n 0, 1) := by decide +kernel
theorem dX10_forOne_114 : decode cX10_forOne 114 = .ok (.invokevirtual 399, 3) := by decide +kernel
theorem dX10_forOne_117 : decode cX10_forOne 117 = .ok (.iload 9, 2) := by decide +kernel
theorem dX10_forOne_119 : decode cX10_forOne 119 = .ok (.iload 7, 2) := by decide +kernel
theorem dX10_forOne_121 : decode cX10_forOne 121 = .ok (.if_icmp .gt 6, 3) := by decide +kernel
theorem dX10_forOne_124 : decode cX10_forOne 124 = .ok (.goto 11, 3) := by decide +kernel
theorem dX10_forOne_127 : decode cX10_forOne 127 = .ok (.iload 8, 2) := by decide +kernel
theorem dX10_forOne_129 : decode cX10_forOne 129 = .ok (.istore 6, 2) := by decide +kernel
theorem dX10_forOne_131 : decode cX10_forOne 131 = .ok (.iload 9, 2) := by decide +kernel
theorem dX10_forOne_133 : decode cX10_forOne 133 = .ok (.istore 7, 2) := by decide +kernel
theorem dX10_forOne_135 : decode cX10_forOne 135 = .ok (.iinc 8 1, 3) := by decide +kernel
theorem dX10_forOne_138 : decode cX10_forOne 138 = .ok (.goto (-75), 3) := by decide +kernel
theorem dX10_forOne_141 : decode cX10_forOne 141 = .ok (.iload 4, 2) := by decide +kernel
theorem dX10_forOne_143 : decode cX10_forOne 143 = .ok (.ifCond .ne 8, 3) := by decide +kernel
theorem dX10_forOne_146 : decode cX10_forOne 146 = .ok (.iload 6, 2) := by decide +kernel
theorem dX10_forOne_148 : decode cX10_forOne 148 = .ok (.goto 5, 3) := by decide +kernel
theorem dX10_forOne_151 : decode cX10_forOne 151 = .ok (.iload 7, 2) := by decide +kernel
theorem dX10_forOne_153 : decode cX10_forOne 153 = .ok (.ireturn, 1) := by decide +kernel
def f_X10_forOne_63 (a0 : Nat) (i1 : Int32) (i2 : Int32) (i3 : Int32) (i4 : Int32) (i5 : Int32) (i6 : Int32) (i7 : Int32) (i8 : Int32) (σ : mm_S) : Option (Int32 × mm_S) :=
  lp lpN (fun (k63 : (Int32 × Int32 × Int32) → mm_S → Option (Int32 × mm_S)) (v : Int32 × Int32 × Int32) (σ : mm_S) =>
    gd (3 : Int32) 121 <|
    if (σ.1 224 (3 : Int32).toNatClampNeg) ≤ v.2.2 then
      if i4 = 0 then
        some (v.1, σ)
      else
        some (v.2.1, σ)
    else
      if v.2.2 = i2 then
        lt (v.2.2 + Int32.ofInt (1)) fun x22 =>
        k63 (v.1, v.2.1, x22) σ
      else
        gd (((11 : Int32) + ((5 : Int32) * i2)) + (3 : Int32)) 121 <|
        lt (su_i σ 224 (((11 : Int32) + ((5 : Int32) * i2)) + (3 : Int32)).toNatClampNeg v.2.2) fun σ6 =>
        bv (f_X10_passesAll a0 i3 σ6) fun σ9 =>
        bd (f_X10_sleptBy a0 i1 σ9) fun r12 σ11 =>
        lt ((r12 - i5)) fun x13 =>
        bv (f_X10_laysBack a0 σ11) fun σ16 =>
        if v.2.1 < x13 then
          lt (v.2.2 + Int32.ofInt (1)) fun x18 =>
          k63 (v.2.2, x13, x18) σ16
        else
          lt (v.2.2 + Int32.ofInt (1)) fun x20 =>
          k63 (v.1, v.2.1, x20) σ16) (i6, i7, i8) σ
theorem v_X10_forOne_63 {g : mm_G} (d : Nat) {a0 : Nat} {i1 : Int32} {i2 : Int32} {i3 : Int32} {i4 : Int32} {i5 : Int32} {i6 : Int32} {i7 : Int32} {i8 : Int32} {σ : mm_S} {res : Int32 × mm_S}  (h_a0 : (mm_K a0).1 = 10) (h : f_X10_forOne_63 a0 i1 i2 i3 i4 i5 i6 i7 i8 σ = some res) : SV g (d + 8) yy_X10_forOne 63 [(0, .ref a0), (1, .int i1), (2, .int i2), (3, .int i3), (4, .int i4), (5, .int i5), (6, .int i6), (7, .int i7), (8, .int i8)] [] σ (.int res.1) res.2 := by
  unfold f_X10_forOne_63 at h
  refine lp_ind (P := fun v σ => SV g (d + 8) yy_X10_forOne 63 [(0, .ref a0), (1, .int i1), (2, .int i2), (3, .int i3), (4, .int i4), (5, .int i5), (6, .int v.1), (7, .int v.2.1), (8, .int v.2.2)] [] σ (.int res.1) res.2) (fun k63 H63 v σ h => ?_) _ (i6, i7, i8) σ h
  refine e_iload 8 dX10_forOne_63  rfl ?_
  refine e_aload_n 0 dX10_forOne_65 rfl rfl ?_
  refine s_getr dX10_forOne_66 fl_RX10_39 h_a0 (r_10_20 h_a0).1 ?_
  refine e_iconst (v := (3 : Int32)) dX10_forOne_69 (by decide) ?_
  obtain ⟨q1, h⟩ := gd_some h
  refine s_iald dX10_forOne_70 (r_10_20 (w := 0) h_a0).2 q1 ?_
  refine e_icmp_ge 141 dX10_forOne_71 (by decide) (fun c2 => ?_) (fun c2 => ?_)
  · rw [if_pos c2] at h
    refine e_iload 4 dX10_forOne_141  rfl ?_
    refine e_if_ne 151 dX10_forOne_143 (by decide) (fun c3 => ?_) (fun c3 => ?_)
    · rw [if_neg c3] at h
      refine e_iload 7 dX10_forOne_151  rfl ?_
      obtain rfl := Option.some.inj h
      exact s_ret rfl ⟨_, rfl, rfl⟩ dX10_forOne_153
    · rw [if_pos c3] at h
      refine e_iload 6 dX10_forOne_146  rfl ?_
      refine e_goto 153 dX10_forOne_148 (by decide) ?_
      obtain rfl := Option.some.inj h
      exact s_ret rfl ⟨_, rfl, rfl⟩ dX10_forOne_153
  · rw [if_neg c2] at h
    refine e_iload 8 dX10_forOne_74  rfl ?_
    refine e_iload_n 2 dX10_forOne_76 rfl rfl ?_
    refine e_icmp_ne 83 dX10_forOne_77 (by decide) (fun c4 => ?_) (fun c4 => ?_)
    · rw [if_neg c4] at h
      refine e_aload_n 0 dX10_forOne_83 rfl rfl ?_
      refine s_getr dX10_forOne_84 fl_RX10_39 h_a0 (r_10_20 h_a0).1 ?_
      refine e_bipush (v := (11 : Int32)) dX10_forOne_87 (by decide) ?_
      refine e_iconst (v := (5 : Int32)) dX10_forOne_89 (by decide) ?_
      refine e_iload_n 2 dX10_forOne_90 rfl rfl ?_
      refine e_imul dX10_forOne_91 ?_
      refine e_iadd dX10_forOne_92 ?_
      refine e_iconst (v := (3 : Int32)) dX10_forOne_93 (by decide) ?_
      refine e_iadd dX10_forOne_94 ?_
      refine e_iload 8 dX10_forOne_95  rfl ?_
      obtain ⟨q5, h⟩ := gd_some h
      refine s_iast dX10_forOne_97 (r_10_20 (w := 0) h_a0).2 q5 ?_
      obtain ⟨σ6, q7, h⟩ := lt_some h
      refine s_nms q7 ?_
      refine e_aload_n 0 dX10_forOne_98 rfl rfl ?_
      refine e_iload_n 3 dX10_forOne_99 rfl rfl ?_
      obtain ⟨σ9, q8, h⟩ := bv_some h
      refine s_callVv [.int i3] dX10_forOne_100 ml_RX10_396 h_a0 rfl rfl (v_X10_passesAll (d + 0) h_a0 q8) (Nat.le_of_ble_eq_true rfl) ?_
      refine e_aload_n 0 dX10_forOne_103 rfl rfl ?_
      refine e_iload_n 1 dX10_forOne_104 rfl rfl ?_
      obtain ⟨r12, σ11, q10, h⟩ := bd_some h
      refine s_callVi [.int i1] dX10_forOne_105 ml_RX10_311 h_a0 ⟨_, rfl, by decide⟩ rfl (v_X10_sleptBy (d + 7) h_a0 q10) (Nat.le_of_ble_eq_true rfl) ?_
      refine e_iload 5 dX10_forOne_108  rfl ?_
      refine e_isub dX10_forOne_110 ?_
      obtain ⟨x13, q14, h⟩ := lt_some h
      refine s_nmi q14 ?_
      refine e_istore (L' := [(0, .ref a0), (1, .int i1), (2, .int i2), (3, .int i3), (4, .int i4), (5, .int i5), (6, .int v.1), (7, .int v.2.1), (8, .int v.2.2), (9, .int x13)]) dX10_forOne_111  (by decide) rfl ?_
      refine e_aload_n 0 dX10_forOne_113 rfl rfl ?_
      obtain ⟨σ16, q15, h⟩ := bv_some h
      refine s_callVv [] dX10_forOne_114 ml_RX10_399 h_a0 rfl rfl (v_X10_laysBack (d + 7) h_a0 q15) (Nat.le_of_ble_eq_true rfl) ?_
      refine e_iload 9 dX10_forOne_117  rfl ?_
      refine e_iload 7 dX10_forOne_119  rfl ?_
      refine e_icmp_gt 127 dX10_forOne_121 (by decide) (fun c17 => ?_) (fun c17 => ?_)
      · rw [if_pos c17] at h
        refine e_iload 8 dX10_forOne_127  rfl ?_
        refine e_istore (L' := [(0, .ref a0), (1, .int i1), (2, .int i2), (3, .int i3), (4, .int i4), (5, .int i5), (6, .int v.2.2), (7, .int v.2.1), (8, .int v.2.2), (9, .int x13)]) dX10_forOne_129  (by decide) rfl ?_
        refine e_iload 9 dX10_forOne_131  rfl ?_
        refine e_istore (L' := [(0, .ref a0), (1, .int i1), (2, .int i2), (3, .int i3), (4, .int i4), (5, .int i5), (6, .int v.2.2), (7, .int x13), (8, .int v.2.2), (9, .int x13)]) dX10_forOne_133  (by decide) rfl ?_
        obtain ⟨x18, q19, h⟩ := lt_some h
        refine e_iinc (v := x18) (L' := [(0, .ref a0), (1, .int i1), (2, .int i2), (3, .int i3), (4, .int i4), (5, .int i5), (6, .int v.2.2), (7, .int x13), (8, .int x18), (9, .int x13)]) 8 dX10_forOne_135 rfl q19.symm (by decide) rfl ?_
        refine e_goto 63 dX10_forOne_138 (by decide) ?_
        refine s_pick (L' := [(0, .ref a0), (1, .int i1), (2, .int i2), (3, .int i3), (4, .int i4), (5, .int i5), (6, .int v.2.2), (7, .int x13), (8, .int x18)]) [0, 1, 2, 3, 4, 5, 6, 7, 8] rfl ?_
        exact H63 (v.2.2, x13, x18) σ16 h
      · rw [if_neg c17] at h
        refine e_goto 135 dX10_forOne_124 (by decide) ?_
        obtain ⟨x20, q21, h⟩ := lt_some h
        refine e_iinc (v := x20) (L' := [(0, .ref a0), (1, .int i1), (2, .int i2), (3, .int i3), (4, .int i4), (5, .int i5), (6, .int v.1), (7, .int v.2.1), (8, .int x20), (9, .int x13)]) 8 dX10_forOne_135 rfl q21.symm (by decide) rfl ?_
        refine e_goto 63 dX10_forOne_138 (by decide) ?_
        refine s_pick (L' := [(0, .ref a0), (1, .int i1), (2, .int i2), (3, .int i3), (4, .int i4), (5, .int i5), (6, .int v.1), (7, .int v.2.1), (8, .int x20)]) [0, 1, 2, 3, 4, 5, 6, 7, 8] rfl ?_
        exact H63 (v.1, v.2.1, x20) σ16 h
    · rw [if_pos c4] at h
      refine e_goto 135 dX10_forOne_80 (by decide) ?_
      obtain ⟨x22, q23, h⟩ := lt_some h
      refine e_iinc (v := x22) (L' := [(0, .ref a0), (1, .int i1), (2, .int i2), (3, .int i3), (4, .int i4), (5, .int i5), (6, .int v.1), (7, .int v.2.1), (8, .int x22)]) 8 dX10_forOne_135 rfl q23.symm (by decide) rfl ?_
      refine e_goto 63 dX10_forOne_138 (by decide) ?_
      refine s_pick (L' := [(0, .ref a0), (1, .int i1), (2, .int i2), (3, .int i3), (4, .int i4), (5, .int i5), (6, .int v.1), (7, .int v.2.1), (8, .int x22)]) [0, 1, 2, 3, 4, 5, 6, 7, 8] rfl ?_
      exact H63 (v.1, v.2.1, x22) σ h
def f_X10_forOne (a0 : Nat) (i1 : Int32) (i2 : Int32) (i3 : Int32) (i4 : Int32) (σ : mm_S) : Option (Int32 × mm_S) :=
    bd (f_X10_areTwo a0 i1 i2 σ) fun r47 σ46 =>
    if r47 = 0 then
      some ((-2 : Int32), σ46)
    else
      bd (f_X10_isIn a0 i2 σ46) fun r51 σ50 =>
      if r51 = 0 then
        bd (f_X10_in (i3 : Int32).toInt64 (1 : Int64) (30 : Int64) σ50) fun r55 σ54 =>
        if r55 = 0 then
          some ((-2 : Int32), σ54)
        else
          bd (f_X10_in (i4 : Int32).toInt64 (0 : Int64) (1 : Int64) σ54) fun r59 σ58 =>
          if r59 = 0 then
            some ((-2 : Int32), σ58)
          else
            bd (f_X10_sleptBy a0 i1 σ58) fun r63 σ62 =>
            bv (f_X10_keeps a0 σ62) fun σ65 =>
            f_X10_forOne_63 a0 i1 i2 i3 i4 r63 (-1 : Int32) (-1 : Int32) (-1 : Int32) σ65
      else
        some ((-2 : Int32), σ50)
theorem v_X10_forOne {g : mm_G} (d : Nat) {a0 : Nat} {i1 : Int32} {i2 : Int32} {i3 : Int32} {i4 : Int32} {σ : mm_S} {res : Int32 × mm_S} (h_a0 : (mm_K a0).1 = 10) (h : f_X10_forOne a0 i1 i2 i3 i4 σ = some res) : SM g (d + 8) yy_X10_forOne [.ref a0, .int i1, .int i2, .int i3, .int i4] σ (.int res.1) res.2 := by
  refine s_of (by decide) (Nat.le_of_ble_eq_true rfl) (L := [(0, .ref a0), (1, .int i1), (2, .int i2), (3, .int i3), (4, .int i4)]) rfl ?_
  unfold f_X10_forOne at h
  refine e_aload_n 0 dX10_forOne_0 rfl rfl ?_
  refine e_iload_n 1 dX10_forOne_1 rfl rfl ?_
  refine e_iload_n 2 dX10_forOne_2 rfl rfl ?_
  obtain ⟨r47, σ46, q45, h⟩ := bd_some h
  refine s_callVi [.int i1, .int i2] dX10_forOne_3 ml_RX10_325 h_a0 ⟨_, rfl, by decide⟩ rfl (v_X10_areTwo (d + 6) h_a0 q45) (Nat.le_of_ble_eq_true rfl) ?_
  refine e_if_eq 40 dX10_forOne_6 (by decide) (fun c48 => ?_) (fun c48 => ?_)
  · rw [if_pos c48] at h
    refine e_bipush (v := (-2 : Int32)) dX10_forOne_40 (by decide) ?_
    obtain rfl := Option.some.inj h
    exact s_ret rfl ⟨_, rfl, rfl⟩ dX10_forOne_42
  · rw [if_neg c48] at h
    refine e_aload_n 0 dX10_forOne_9 rfl rfl ?_
    refine e_iload_n 2 dX10_forOne_10 rfl rfl ?_
    obtain ⟨r51, σ50, q49, h⟩ := bd_some h
    refine s_callVi [.int i2] dX10_forOne_11 ml_RX10_302 h_a0 ⟨_, rfl, by decide⟩ rfl (v_X10_isIn (d + 7) h_a0 q49) (Nat.le_of_ble_eq_true rfl) ?_
    refine e_if_ne 40 dX10_forOne_14 (by decide) (fun c52 => ?_) (fun c52 => ?_)
    · rw [if_neg c52] at h
      refine e_bipush (v := (-2 : Int32)) dX10_forOne_40 (by decide) ?_
      obtain rfl := Option.some.inj h
      exact s_ret rfl ⟨_, rfl, rfl⟩ dX10_forOne_42
    · rw [if_pos c52] at h
      refine e_iload_n 3 dX10_forOne_17 rfl rfl ?_
      refine e_i2l dX10_forOne_18 ?_
      refine e_lconst (v := (1 : Int64)) dX10_forOne_19 (by decide) ?_
      refine e_ldc2 dX10_forOne_20 co_RX10_418 ?_
      obtain ⟨r55, σ54, q53, h⟩ := bd_some h
      refine s_callSi [.long (i3 : Int32).toInt64, .long (1 : Int64), .long (30 : Int64)] dX10_forOne_23 ml_RX10_136 ⟨_, rfl, by decide⟩ rfl (v_X10_in (d + 7)  q53) (Nat.le_of_ble_eq_true rfl) ?_
      refine e_if_eq 40 dX10_forOne_26 (by decide) (fun c56 => ?_) (fun c56 => ?_)
      · rw [if_pos c56] at h
        refine e_bipush (v := (-2 : Int32)) dX10_forOne_40 (by decide) ?_
        obtain rfl := Option.some.inj h
        exact s_ret rfl ⟨_, rfl, rfl⟩ dX10_forOne_42
      · rw [if_neg c56] at h
        refine e_iload 4 dX10_forOne_29  rfl ?_
        refine e_i2l dX10_forOne_31 ?_
        refine e_lconst (v := (0 : Int64)) dX10_forOne_32 (by decide) ?_
        refine e_lconst (v := (1 : Int64)) dX10_forOne_33 (by decide) ?_
        obtain ⟨r59, σ58, q57, h⟩ := bd_some h
        refine s_callSi [.long (i4 : Int32).toInt64, .long (0 : Int64), .long (1 : Int64)] dX10_forOne_34 ml_RX10_136 ⟨_, rfl, by decide⟩ rfl (v_X10_in (d + 7)  q57) (Nat.le_of_ble_eq_true rfl) ?_
        refine e_if_ne 43 dX10_forOne_37 (by decide) (fun c60 => ?_) (fun c60 => ?_)
        · rw [if_neg c60] at h
          refine e_aload_n 0 dX10_forOne_43 rfl rfl ?_
          refine e_iload_n 1 dX10_forOne_44 rfl rfl ?_
          obtain ⟨r63, σ62, q61, h⟩ := bd_some h
          refine s_callVi [.int i1] dX10_forOne_45 ml_RX10_311 h_a0 ⟨_, rfl, by decide⟩ rfl (v_X10_sleptBy (d + 7) h_a0 q61) (Nat.le_of_ble_eq_true rfl) ?_
          refine e_istore (L' := [(0, .ref a0), (1, .int i1), (2, .int i2), (3, .int i3), (4, .int i4), (5, .int r63)]) dX10_forOne_48  (by decide) rfl ?_
          refine e_iconst (v := (-1 : Int32)) dX10_forOne_50 (by decide) ?_
          refine e_istore (L' := [(0, .ref a0), (1, .int i1), (2, .int i2), (3, .int i3), (4, .int i4), (5, .int r63), (6, .int (-1 : Int32))]) dX10_forOne_51  (by decide) rfl ?_
          refine e_iconst (v := (-1 : Int32)) dX10_forOne_53 (by decide) ?_
          refine e_istore (L' := [(0, .ref a0), (1, .int i1), (2, .int i2), (3, .int i3), (4, .int i4), (5, .int r63), (6, .int (-1 : Int32)), (7, .int (-1 : Int32))]) dX10_forOne_54  (by decide) rfl ?_
          refine e_aload_n 0 dX10_forOne_56 rfl rfl ?_
          obtain ⟨σ65, q64, h⟩ := bv_some h
          refine s_callVv [] dX10_forOne_57 ml_RX10_393 h_a0 rfl rfl (v_X10_keeps (d + 7) h_a0 q64) (Nat.le_of_ble_eq_true rfl) ?_
          refine e_iconst (v := (-1 : Int32)) dX10_forOne_60 (by decide) ?_
          refine e_istore (L' := [(0, .ref a0), (1, .int i1), (2, .int i2), (3, .int i3), (4, .int i4), (5, .int r63), (6, .int (-1 : Int32)), (7, .int (-1 : Int32)), (8, .int (-1 : Int32))]) dX10_forOne_61  (by decide) rfl ?_
          refine s_pick (L' := [(0, .ref a0), (1, .int i1), (2, .int i2), (3, .int i3), (4, .int i4), (5, .int r63), (6, .int (-1 : Int32)), (7, .int (-1 : Int32)), (8, .int (-1 : Int32))]) [0, 1, 2, 3, 4, 5, 6, 7, 8] rfl ?_
          exact v_X10_forOne_63 d h_a0 h
        · rw [if_pos c60] at h
          refine e_bipush (v := (-2 : Int32)) dX10_forOne_40 (by decide) ?_
          obtain rfl := Option.some.inj h
          exact s_ret rfl ⟨_, rfl, rfl⟩ dX10_forOne_42
