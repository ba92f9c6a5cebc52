abbrev yy_X10_isRest : mm_Y := (yX10_isRest, cX10_isRest, 6, (some .boolean))
theorem dX10_isRest_0 : decode cX10_isRest 0 = .ok (.iconst 0, 1) := by decide +kernel
theorem dX10_isRest_1 : decode cX10_isRest 1 = .ok (.istore 5, 2) := by decide +kernel
theorem dX10_isRest_3 : decode cX10_isRest 3 = .ok (.iload 5, 2) := by decide +kernel
theorem dX10_isRest_5 : decode cX10_isRest 5 = .ok (.aload_n 0, 1) := by decide +kernel
theorem dX10_isRest_6 : decode cX10_isRest 6 = .ok (.getfield 39, 3) := by decide +kernel
theorem dX10_isRest_9 : decode cX10_isRest 9 = .ok (.iconst 3, 1) := by decide +kernel
theorem dX10_isRest_10 : decode cX10_isRest 10 = .ok (.iaload, 1) := by decide +kernel
theorem dX10_isRest_11 : decode cX10_isRest 11 = .ok (.if_icmp .ge 92, 3) := by decide +kernel
theorem dX10_isRest_14 : decode cX10_isRest 14 = .ok (.iload 5, 2) := by decide +kernel
theorem dX10_isRest_16 : decode cX10_isRest 16 = .ok (.iload_n 1, 1) := by decide +kernel
theorem dX10_isRest_17 : decode cX10_isRest 17 = .ok (.if_icmp .eq 37, 3) := by decide +kernel
theorem dX10_isRest_20 : decode cX10_isRest 20 = .ok (.aload_n 0, 1) := by decide +kernel
theorem dX10_isRest_21 : decode cX10_isRest 21 = .ok (.getfield 76, 3) := by decide +kernel
theorem dX10_isRest_24 : decode cX10_isRest 24 = .ok (.iconst 2, 1) := by decide +kernel
theorem dX10_isRest_25 : decode cX10_isRest 25 = .ok (.bipush 6, 2) := by decide +kernel
theorem dX10_isRest_27 : decode cX10_isRest 27 = .ok (.iload 5, 2) := by decide +kernel
theorem dX10_isRest_29 : decode cX10_isRest 29 = .ok (.imul, 1) := by decide +kernel
theorem dX10_isRest_30 : decode cX10_isRest 30 = .ok (.iload 4, 2) := by decide +kernel
theorem dX10_isRest_32 : decode cX10_isRest 32 = .ok (.iadd, 1) := by decide +kernel
theorem dX10_isRest_33 : decode cX10_isRest 33 = .ok (.imul, 1) := by decide +kernel
theorem dX10_isRest_34 : decode cX10_isRest 34 = .ok (.iaload, 1) := by decide +kernel
theorem dX10_isRest_35 : decode cX10_isRest 35 = .ok (.aload_n 0, 1) := by decide +kernel
theorem dX10_isRest_36 : decode cX10_isRest 36 = .ok (.getfield 76, 3) := by decide +kernel
theorem dX10_isRest_39 : decode cX10_isRest 39 = .ok (.iconst 2, 1) := by decide +kernel
theorem dX10_isRest_40 : decode cX10_isRest 40 = .ok (.bipush 6, 2) := by decide +kernel
theorem dX10_isRest_42 : decode cX10_isRest 42 = .ok (.iload_n 3, 1) := by decide +kernel
theorem dX10_isRest_43 : decode cX10_isRest 43 = .ok (.imul, 1) := by decide +kernel
theorem dX10_isRest_44 : decode cX10_isRest 44 = .ok (.iload 4, 2) := by decide +kernel
theorem dX10_isRest_46 : decode cX10_isRest 46 = .ok (.iadd, 1) := by decide +kernel
theorem dX10_isRest_47 : decode cX10_isRest 47 = .ok (.imul, 1) := by decide +kernel
theorem dX10_isRest_48 : decode cX10_isRest 48 = .ok (.iaload, 1) := by decide +kernel
theorem dX10_isRest_49 : decode cX10_isRest 49 = .ok (.if_icmp .ge 5, 3) := by decide +kernel
theorem dX10_isRest_52 : decode cX10_isRest 52 = .ok (.iconst 0, 1) := by decide +kernel
theorem dX10_isRest_53 : decode cX10_isRest 53 = .ok (.ireturn, 1) := by decide +kernel
theorem dX10_isRest_54 : decode cX10_isRest 54 = .ok (.iload 5, 2) := by decide +kernel
theorem dX10_isRest_56 : decode cX10_isRest 56 = .ok (.iload_n 2, 1) := by decide +kernel
theorem dX10_isRest_57 : decode cX10_isRest 57 = .ok (.if_icmp .eq 40, 3) := by decide +kernel
theorem dX10_isRest_60 : decode cX10_isRest 60 = .ok (.aload_n 0, 1) := by decide +kernel
theorem dX10_isRest_61 : decode cX10_isRest 61 = .ok (.getfield 76, 3) := by decide +kernel
theorem dX10_isRest_64 : decode cX10_isRest 64 = .ok (.iconst 2, 1) := by decide +kernel
theorem dX10_isRest_65 : decode cX10_isRest 65 = .ok (.bipush 6, 2) := by decide +kernel
theorem dX10_isRest_67 : decode cX10_isRest 67 = .ok (.iload_n 3, 1) := by decide +kernel
theorem dX10_isRest_68 : decode cX10_isRest 68 = .ok (.imul, 1) := by decide +kernel
theorem dX10_isRest_69 : decode cX10_isRest 69 = .ok (.iload 5, 2) := by decide +kernel
theorem dX10_isRest_71 : decode cX10_isRest 71 = .ok (.iadd, 1) := by decide +kernel
theorem dX10_isRest_72 : decode cX10_isRest 72 = .ok (.imul, 1) := by decide +kernel
theorem dX10_isRest_73 : decode cX10_isRest 73 = .ok (.iconst 1, 1) := by decide +kernel
theorem dX10_isRest_74 : decode cX10_isRest 74 = .ok (.iadd, 1) := by decide +kernel
theorem dX10_isRest_75 : decode cX10_isRest 75 = .ok (.iaload, 1) := by decide +kernel
theorem dX10_isRest_76 : decode cX10_isRest 76 = .ok (.aload_n 0, 1) := by decide +kernel
theorem dX10_isRest_77 : decode cX10_isRest 77 = .ok (.getfield 76, 3) := by decide +kernel
theorem dX10_isRest_80 : decode cX10_isRest 80 = .ok (.iconst 2, 1) := by decide +kernel
theorem dX10_isRest_81 : decode cX10_isRest 81 = .ok (.bipush 6, 2) := by decide +kernel
theorem dX10_isRest_83 : decode cX10_isRest 83 = .ok (.iload_n 3, 1) := by decide +kernel
theorem dX10_isRest_84 : decode cX10_isRest 84 = .ok (.imul, 1) := by decide +kernel
theorem dX10_isRest_85 : decode cX10_isRest 85 = .ok (.iload 4, 2) := by decide +kernel
theorem dX10_isRest_87 : decode cX10_isRest 87 = .ok (.iadd, 1) := by decide +kernel
theorem dX10_isRest_88 : decode cX10_isRest 88 = .ok (.imul, 1) := by decide +kernel
theorem dX10_isRest_89 : decode cX10_isRest 89 = .ok (.iconst 1, 1) := by decide +kernel
theorem dX10_isRest_90 : decode cX10_isRest 90 = .ok (.iadd, 1) := by decide +kernel
theorem dX10_isRest_91 : decode cX10_isRest 91 = .ok (.iaload, 1) := by decide +kernel
theorem dX10_isRest_92 : decode cX10_isRest 92 = .ok (.if_icmp .ge 5, 3) := by decide +kernel
theorem dX10_isRest_95 : decode cX10_isRest 95 = .ok (.iconst 0, 1) := by decide +kernel
theorem dX10_isRest_96 : decode cX10_isRest 96 = .ok (.ireturn, 1) := by decide +kernel
theorem dX10_isRest_97 : decode cX10_isRest 97 = .ok (.iinc 5 1, 3) := by decide +kernel
theorem dX10_isRest_100 : decode cX10_isRest 100 = .ok (.goto (-97), 3) := by decide +kernel
theorem dX10_isRest_103 : decode cX10_isRest 103 = .ok (.iconst 1, 1) := by decide +kernel
theorem dX10_isRest_104 : decode cX10_isRest 104 = .ok (.ireturn, 1) := by decide +kernel
def f_X10_isRest_54 (k3 : (Int32) → mm_S → Option (Int32 × mm_S)) (a0 : Nat) (i1 : Int32) (i2 : Int32) (i3 : Int32) (i4 : Int32) (i5 : Int32) (σ : mm_S) : Option (Int32 × mm_S) :=
    if i5 = i2 then
      lt (i5 + Int32.ofInt (1)) fun x2 =>
      k3 x2 σ
    else
      gd (((2 : Int32) * (((6 : Int32) * i3) + i5)) + (1 : Int32)) 72 <|
      gd (((2 : Int32) * (((6 : Int32) * i3) + i4)) + (1 : Int32)) 72 <|
      if (σ.1 233 (((2 : Int32) * (((6 : Int32) * i3) + i4)) + (1 : Int32)).toNatClampNeg) ≤ (σ.1 233 (((2 : Int32) * (((6 : Int32) * i3) + i5)) + (1 : Int32)).toNatClampNeg) then
        lt (i5 + Int32.ofInt (1)) fun x7 =>
        k3 x7 σ
      else
        some ((0 : Int32), σ)
theorem v_X10_isRest_54 {g : mm_G} (d : Nat) {k3 : (Int32) → mm_S → Option (Int32 × mm_S)} {a0 : Nat} {i1 : Int32} {i2 : Int32} {i3 : Int32} {i4 : Int32} {i5 : Int32} {σ : mm_S} {res : Int32 × mm_S} (H3 : ∀ v σ, k3 v σ = some res → SV g (d + 0) yy_X10_isRest 3 [(0, .ref a0), (1, .int i1), (2, .int i2), (3, .int i3), (4, .int i4), (5, .int v)] [] σ (.int res.1) res.2) (h_a0 : (mm_K a0).1 = 10) (h : f_X10_isRest_54 k3 a0 i1 i2 i3 i4 i5 σ = some res) : SV g (d + 0) yy_X10_isRest 54 [(0, .ref a0), (1, .int i1), (2, .int i2), (3, .int i3), (4, .int i4), (5, .int i5)] [] σ (.int res.1) res.2 := by
  unfold f_X10_isRest_54 at h
  refine e_iload 5 dX10_isRest_54  rfl ?_
  refine e_iload_n 2 dX10_isRest_56 rfl rfl ?_
  refine e_icmp_eq 97 dX10_isRest_57 (by decide) (fun c1 => ?_) (fun c1 => ?_)
  · rw [if_pos c1] at h
    obtain ⟨x2, q3, h⟩ := lt_some h
    refine e_iinc (v := x2) (L' := [(0, .ref a0), (1, .int i1), (2, .int i2), (3, .int i3), (4, .int i4), (5, .int x2)]) 5 dX10_isRest_97 rfl q3.symm (by decide) rfl ?_
    refine e_goto 3 dX10_isRest_100 (by decide) ?_
    refine s_pick (L' := [(0, .ref a0), (1, .int i1), (2, .int i2), (3, .int i3), (4, .int i4), (5, .int x2)]) [0, 1, 2, 3, 4, 5] rfl ?_
    exact H3 x2 σ h
  · rw [if_neg c1] at h
    refine e_aload_n 0 dX10_isRest_60 rfl rfl ?_
    refine s_getr dX10_isRest_61 fl_RX10_76 h_a0 (r_10_38 h_a0).1 ?_
    refine e_iconst (v := (2 : Int32)) dX10_isRest_64 (by decide) ?_
    refine e_bipush (v := (6 : Int32)) dX10_isRest_65 (by decide) ?_
    refine e_iload_n 3 dX10_isRest_67 rfl rfl ?_
    refine e_imul dX10_isRest_68 ?_
    refine e_iload 5 dX10_isRest_69  rfl ?_
    refine e_iadd dX10_isRest_71 ?_
    refine e_imul dX10_isRest_72 ?_
    refine e_iconst (v := (1 : Int32)) dX10_isRest_73 (by decide) ?_
    refine e_iadd dX10_isRest_74 ?_
    obtain ⟨q4, h⟩ := gd_some h
    refine s_iald dX10_isRest_75 (r_10_38 (w := 0) h_a0).2 q4 ?_
    refine e_aload_n 0 dX10_isRest_76 rfl rfl ?_
    refine s_getr dX10_isRest_77 fl_RX10_76 h_a0 (r_10_38 h_a0).1 ?_
    refine e_iconst (v := (2 : Int32)) dX10_isRest_80 (by decide) ?_
    refine e_bipush (v := (6 : Int32)) dX10_isRest_81 (by decide) ?_
    refine e_iload_n 3 dX10_isRest_83 rfl rfl ?_
    refine e_imul dX10_isRest_84 ?_
    refine e_iload 4 dX10_isRest_85  rfl ?_
    refine e_iadd dX10_isRest_87 ?_
    refine e_imul dX10_isRest_88 ?_
    refine e_iconst (v := (1 : Int32)) dX10_isRest_89 (by decide) ?_
    refine e_iadd dX10_isRest_90 ?_
    obtain ⟨q5, h⟩ := gd_some h
    refine s_iald dX10_isRest_91 (r_10_38 (w := 0) h_a0).2 q5 ?_
    refine e_icmp_ge 97 dX10_isRest_92 (by decide) (fun c6 => ?_) (fun c6 => ?_)
    · rw [if_pos c6] at h
      obtain ⟨x7, q8, h⟩ := lt_some h
      refine e_iinc (v := x7) (L' := [(0, .ref a0), (1, .int i1), (2, .int i2), (3, .int i3), (4, .int i4), (5, .int x7)]) 5 dX10_isRest_97 rfl q8.symm (by decide) rfl ?_
      refine e_goto 3 dX10_isRest_100 (by decide) ?_
      refine s_pick (L' := [(0, .ref a0), (1, .int i1), (2, .int i2), (3, .int i3), (4, .int i4), (5, .int x7)]) [0, 1, 2, 3, 4, 5] rfl ?_
      exact H3 x7 σ h
    · rw [if_neg c6] at h
      refine e_iconst (v := (0 : Int32)) dX10_isRest_95 (by decide) ?_
      obtain rfl := Option.some.inj h
      exact s_ret rfl ⟨_, rfl, nb1 (Or.inl rfl)⟩ dX10_isRest_96
def f_X10_isRest_3 (a0 : Nat) (i1 : Int32) (i2 : Int32) (i3 : Int32) (i4 : Int32) (i5 : Int32) (σ : mm_S) : Option (Int32 × mm_S) :=
  lp lpN (fun (k3 : (Int32) → mm_S → Option (Int32 × mm_S)) (v : Int32) (σ : mm_S) =>
    gd (3 : Int32) 121 <|
    if (σ.1 224 (3 : Int32).toNatClampNeg) ≤ v then
      some ((1 : Int32), σ)
    else
      if v = i1 then
        f_X10_isRest_54 k3 a0 i1 i2 i3 i4 v σ
      else
        gd ((2 : Int32) * (((6 : Int32) * v) + i4)) 72 <|
        gd ((2 : Int32) * (((6 : Int32) * i3) + i4)) 72 <|
        if (σ.1 233 ((2 : Int32) * (((6 : Int32) * i3) + i4)).toNatClampNeg) ≤ (σ.1 233 ((2 : Int32) * (((6 : Int32) * v) + i4)).toNatClampNeg) then
          f_X10_isRest_54 k3 a0 i1 i2 i3 i4 v σ
        else
          some ((0 : Int32), σ)) i5 σ
theorem v_X10_isRest_3 {g : mm_G} (d : Nat) {a0 : Nat} {i1 : Int32} {i2 : Int32} {i3 : Int32} {i4 : Int32} {i5 : Int32} {σ : mm_S} {res : Int32 × mm_S}  (h_a0 : (mm_K a0).1 = 10) (h : f_X10_isRest_3 a0 i1 i2 i3 i4 i5 σ = some res) : SV g (d + 0) yy_X10_isRest 3 [(0, .ref a0), (1, .int i1), (2, .int i2), (3, .int i3), (4, .int i4), (5, .int i5)] [] σ (.int res.1) res.2 := by
  unfold f_X10_isRest_3 at h
  refine lp_ind (P := fun v σ => SV g (d + 0) yy_X10_isRest 3 [(0, .ref a0), (1, .int i1), (2, .int i2), (3, .int i3), (4, .int i4), (5, .int v)] [] σ (.int res.1) res.2) (fun k3 H3 v σ h => ?_) _ i5 σ h
  refine e_iload 5 dX10_isRest_3  rfl ?_
  refine e_aload_n 0 dX10_isRest_5 rfl rfl ?_
  refine s_getr dX10_isRest_6 fl_RX10_39 h_a0 (r_10_20 h_a0).1 ?_
  refine e_iconst (v := (3 : Int32)) dX10_isRest_9 (by decide) ?_
  obtain ⟨q9, h⟩ := gd_some h
  refine s_iald dX10_isRest_10 (r_10_20 (w := 0) h_a0).2 q9 ?_
  refine e_icmp_ge 103 dX10_isRest_11 (by decide) (fun c10 => ?_) (fun c10 => ?_)
  · rw [if_pos c10] at h
    refine e_iconst (v := (1 : Int32)) dX10_isRest_103 (by decide) ?_
    obtain rfl := Option.some.inj h
    exact s_ret rfl ⟨_, rfl, nb1 (Or.inr rfl)⟩ dX10_isRest_104
  · rw [if_neg c10] at h
    refine e_iload 5 dX10_isRest_14  rfl ?_
    refine e_iload_n 1 dX10_isRest_16 rfl rfl ?_
    refine e_icmp_eq 54 dX10_isRest_17 (by decide) (fun c11 => ?_) (fun c11 => ?_)
    · rw [if_pos c11] at h
      refine s_pick (L' := [(0, .ref a0), (1, .int i1), (2, .int i2), (3, .int i3), (4, .int i4), (5, .int v)]) [0, 1, 2, 3, 4, 5] rfl ?_
      exact v_X10_isRest_54 d H3 h_a0 h
    · rw [if_neg c11] at h
      refine e_aload_n 0 dX10_isRest_20 rfl rfl ?_
      refine s_getr dX10_isRest_21 fl_RX10_76 h_a0 (r_10_38 h_a0).1 ?_
      refine e_iconst (v := (2 : Int32)) dX10_isRest_24 (by decide) ?_
      refine e_bipush (v := (6 : Int32)) dX10_isRest_25 (by decide) ?_
      refine e_iload 5 dX10_isRest_27  rfl ?_
      refine e_imul dX10_isRest_29 ?_
      refine e_iload 4 dX10_isRest_30  rfl ?_
      refine e_iadd dX10_isRest_32 ?_
      refine e_imul dX10_isRest_33 ?_
      obtain ⟨q12, h⟩ := gd_some h
      refine s_iald dX10_isRest_34 (r_10_38 (w := 0) h_a0).2 q12 ?_
      refine e_aload_n 0 dX10_isRest_35 rfl rfl ?_
      refine s_getr dX10_isRest_36 fl_RX10_76 h_a0 (r_10_38 h_a0).1 ?_
      refine e_iconst (v := (2 : Int32)) dX10_isRest_39 (by decide) ?_
      refine e_bipush (v := (6 : Int32)) dX10_isRest_40 (by decide) ?_
      refine e_iload_n 3 dX10_isRest_42 rfl rfl ?_
      refine e_imul dX10_isRest_43 ?_
      refine e_iload 4 dX10_isRest_44  rfl ?_
      refine e_iadd dX10_isRest_46 ?_
      refine e_imul dX10_isRest_47 ?_
      obtain ⟨q13, h⟩ := gd_some h
      refine s_iald dX10_isRest_48 (r_10_38 (w := 0) h_a0).2 q13 ?_
      refine e_icmp_ge 54 dX10_isRest_49 (by decide) (fun c14 => ?_) (fun c14 => ?_)
      · rw [if_pos c14] at h
        refine s_pick (L' := [(0, .ref a0), (1, .int i1), (2, .int i2), (3, .int i3), (4, .int i4), (5, .int v)]) [0, 1, 2, 3, 4, 5] rfl ?_
        exact v_X10_isRest_54 d H3 h_a0 h
      · rw [if_neg c14] at h
        refine e_iconst (v := (0 : Int32)) dX10_isRest_52 (by decide) ?_
        obtain rfl := Option.some.inj h
        exact s_ret rfl ⟨_, rfl, nb1 (Or.inl rfl)⟩ dX10_isRest_53
def f_X10_isRest (a0 : Nat) (i1 : Int32) (i2 : Int32) (i3 : Int32) (i4 : Int32) (σ : mm_S) : Option (Int32 × mm_S) :=
    f_X10_isRest_3 a0 i1 i2 i3 i4 (0 : Int32) σ
theorem v_X10_isRest {g : mm_G} (d : Nat) {a0 : Nat} {i1 : Int32} {i2 : Int32} {i3 : Int32} {i4 : Int32} {σ : mm_S} {res : Int32 × mm_S} (h_a0 : (mm_K a0).1 = 10) (h : f_X10_isRest a0 i1 i2 i3 i4 σ = some res) : SM g (d + 0) yy_X10_isRest [.ref a0, .int i1, .int i2, .int i3, .int i4] σ (.int res.1) res.2 := by
  refine s_of (by decide) (Nat.le_of_ble_eq_true rfl) (L := [(0, .ref a0), (1, .int i1), (2, .int i2), (3, .int i3), (4, .int i4)]) rfl ?_
  unfold f_X10_isRest at h
  refine e_iconst (v := (0 : Int32)) dX10_isRest_0 (by decide) ?_
  refine e_istore (L' := [(0, .ref a0), (1, .int i1), (2, .int i2), (3, .int i3), (4, .int i4), (5, .int (0 : Int32))]) dX10_isRest_1  (by decide) rfl ?_
  refine s_pick (L' := [(0, .ref a0), (1, .int i1), (2, .int i2), (3, .int i3), (4, .int i4), (5, .int (0 : Int32))]) [0, 1, 2, 3, 4, 5] rfl ?_
  exact v_X10_isRest_3 d h_a0 h
abbrev yy_X10_fillsRests : mm_Y := (yX10_fillsRests, cX10_fillsRests, 6, none)
theorem dX10_fillsRests_0 : decode cX10_fillsRests 0 = .ok (.aload_n 0, 1) := by decide +kernel
theorem dX10_fillsRests_1 : decode cX10_fillsRests 1 = .ok (.invokevirtual 393, 3) := by decide +kernel
theorem dX10_fillsRests_4 : decode cX10_fillsRests 4 = .ok (.aload_n 0, 1) := by decide +kernel
theorem dX10_fillsRests_5 : decode cX10_fillsRests 5 = .ok (.iconst 1, 1) := by decide +kernel
theorem dX10_fillsRests_6 : decode cX10_fillsRests 6 = .ok (.iload_n 1, 1) := by decide +kernel
theorem dX10_fillsRests_7 : decode cX10_fillsRests 7 = .ok (.ishl, 1) := by decide +kernel
theorem dX10_fillsRests_8 : decode cX10_fillsRests 8 = .ok (.iconst 1, 1) := by decide +kernel
theorem dX10_fillsRests_9 : decode cX10_fillsRests 9 = .ok (.iload_n 2, 1) := by decide +kernel
theorem dX10_fillsRests_10 : decode cX10_fillsRests 10 = .ok (.ishl, 1) := by decide +kernel
theorem dX10_fillsRests_11 : decode cX10_fillsRests 11 = .ok (.ior, 1) := by decide +kernel
theorem dX10_fillsRests_12 : decode cX10_fillsRests 12 = .ok (.putfield 358, 3) := by decide +kernel
theorem dX10_fillsRests_15 : decode cX10_fillsRests 15 = .ok (.iconst 0, 1) := by decide +kernel
theorem dX10_fillsRests_16 : decode cX10_fillsRests 16 = .ok (.istore 4, 2) := by decide +kernel
theorem dX10_fillsRests_18 : decode cX10_fillsRests 18 = .ok (.iload 4, 2) := by decide +kernel
theorem dX10_fillsRests_20 : decode cX10_fillsRests 20 = .ok (.aload_n 0, 1) := by decide +kernel
theorem dX10_fillsRests_21 : decode cX10_fillsRests 21 = .ok (.getfield 39, 3) := by decide +kernel
theorem dX10_fillsRests_24 : decode cX10_fillsRests 24 = .ok (.iconst 3, 1) := by decide +kernel
theorem dX10_fillsRests_25 : decode cX10_fillsRests 25 = .ok (.iaload, 1) := by decide +kernel
theorem dX10_fillsRests_26 : decode cX10_fillsRests 26 = .ok (.if_icmp .ge 111, 3) := by decide +kernel
theorem dX10_fillsRests_29 : decode cX10_fillsRests 29 = .ok (.iconst 0, 1) := by decide +kernel
theorem dX10_fillsRests_30 : decode cX10_fillsRests 30 = .ok (.istore 5, 2) := by decide +kernel
theorem dX10_fillsRests_32 : decode cX10_fillsRests 32 = .ok (.iload 5, 2) := by decide +kernel
theorem dX10_fillsRests_34 : decode cX10_fillsRests 34 = .ok (.aload_n 0, 1) := by decide +kernel
theorem dX10_fillsRests_35 : decode cX10_fillsRests 35 = .ok (.getfield 39, 3) := by decide +kernel
theorem dX10_fillsRests_38 : decode cX10_fillsRests 38 = .ok (.iconst 3, 1) := by decide +kernel
theorem dX10_fillsRests_39 : decode cX10_fillsRests 39 = .ok (.iaload, 1) := by decide +kernel
theorem dX10_fillsRests_40 : decode cX10_fillsRests 40 = .ok (.if_icmp .ge 91, 3) := by decide +kernel
theorem dX10_fillsRests_43 : decode cX10_fillsRests 43 = .ok (.iload 4, 2) := by decide +kernel
theorem dX10_fillsRests_45 : decode cX10_fillsRests 45 = .ok (.iload_n 1, 1) := by decide +kernel
theorem dX10_fillsRests_46 : decode cX10_fillsRests 46 = .ok (.if_icmp .eq 79, 3) := by decide +kernel
theorem dX10_fillsRests_49 : decode cX10_fillsRests 49 = .ok (.iload 5, 2) := by decide +kernel
theorem dX10_fillsRests_51 : decode cX10_fillsRests 51 = .ok (.iload_n 2, 1) := by decide +kernel
theorem dX10_fillsRests_52 : decode cX10_fillsRests 52 = .ok (.if_icmp .ne 6, 3) := by decide +kernel
theorem dX10_fillsRests_55 : decode cX10_fillsRests 55 = .ok (.goto 70, 3) := by decide +kernel
theorem dX10_fillsRests_58 : decode cX10_fillsRests 58 = .ok (.aload_n 0, 1) := by decide +kernel
theorem dX10_fillsRests_59 : decode cX10_fillsRests 59 = .ok (.getfield 52, 3) := by decide +kernel
theorem dX10_fillsRests_62 : decode cX10_fillsRests 62 = .ok (.iload_n 1, 1) := by decide +kernel
theorem dX10_fillsRests_63 : decode cX10_fillsRests 63 = .ok (.iload 4, 2) := by decide +kernel
theorem dX10_fillsRests_65 : decode cX10_fillsRests 65 = .ok (.iastore, 1) := by decide +kernel
theorem dX10_fillsRests_66 : decode cX10_fillsRests 66 = .ok (.aload_n 0, 1) := by decide +kernel
theorem dX10_fillsRests_67 : decode cX10_fillsRests 67 = .ok (.getfield 52, 3) := by decide +kernel
theorem dX10_fillsRests_70 : decode cX10_fillsRests 70 = .ok (.iload_n 2, 1) := by decide +kernel
theorem dX10_fillsRests_71 : decode cX10_fillsRests 71 = .ok (.iload 5, 2) := by decide +kernel
theorem dX10_fillsRests_73 : decode cX10_fillsRests 73 = .ok (.iastore, 1) := by decide +kernel
theorem dX10_fillsRests_74 : decode cX10_fillsRests 74 = .ok (.aload_n 0, 1) := by decide +kernel
theorem dX10_fillsRests_75 : decode cX10_fillsRests 75 = .ok (.iload_n 3, 1) := by decide +kernel
theorem dX10_fillsRests_76 : decode cX10_fillsRests 76 = .ok (.invokevirtual 396, 3) := by decide +kernel
theorem dX10_fillsRests_79 : decode cX10_fillsRests 79 = .ok (.aload_n 0, 1) := by decide +kernel
theorem dX10_fillsRests_80 : decode cX10_fillsRests 80 = .ok (.getfield 76, 3) := by decide +kernel
theorem dX10_fillsRests_83 : decode cX10_fillsRests 83 = .ok (.iconst 2, 1) := by decide +kernel
theorem dX10_fillsRests_84 : decode cX10_fillsRests 84 = .ok (.bipush 6, 2) := by decide +kernel
theorem dX10_fillsRests_86 : decode cX10_fillsRests 86 = .ok (.iload 4, 2) := by decide +kernel
theorem dX10_fillsRests_88 : decode cX10_fillsRests 88 = .ok (.imul, 1) := by decide +kernel
theorem dX10_fillsRests_89 : decode cX10_fillsRests 89 = .ok (.iload 5, 2) := by decide +kernel
theorem dX10_fillsRests_91 : decode cX10_fillsRests 91 = .ok (.iadd, 1) := by decide +kernel
theorem dX10_fillsRests_92 : decode cX10_fillsRests 92 = .ok (.imul, 1) := by decide +kernel
theorem dX10_fillsRests_93 : decode cX10_fillsRests 93 = .ok (.aload_n 0, 1) := by decide +kernel
theorem dX10_fillsRests_94 : decode cX10_fillsRests 94 = .ok (.iload_n 1, 1) := by decide +kernel
theorem dX10_fillsRests_95 : decode cX10_fillsRests 95 = .ok (.invokevirtual 308, 3) := by decide +kernel
theorem dX10_fillsRests_98 : decode cX10_fillsRests 98 = .ok (.iastore, 1) := by decide +kernel
theorem dX10_fillsRests_99 : decode cX10_fillsRests 99 = .ok (.aload_n 0, 1) := by decide +kernel
theorem dX10_fillsRests_100 : decode cX10_fillsRests 100 = .ok (.getfield 76, 3) := by decide +kernel
theorem dX10_fillsRests_103 : decode cX10_fillsRests 103 = .ok (.iconst 2, 1) := by decide +kernel
theorem dX10_fillsRests_104 : decode cX10_fillsRests 104 = .ok (.bipush 6, 2) := by decide +kernel
theorem dX10_fillsRests_106 : decode cX10_fillsRests 106 = .ok (.iload 4, 2) := by decide +kernel
theorem dX10_fillsRests_108 : decode cX10_fillsRests 108 = .ok (.imul, 1) := by decide +kernel
theorem dX10_fillsRests_109 : decode cX10_fillsRests 109 = .ok (.iload 5, 2) := by decide +kernel
theorem dX10_fillsRests_111 : decode cX10_fillsRests 111 = .ok (.iadd, 1) := by decide +kernel
theorem dX10_fillsRests_112 : decode cX10_fillsRests 112 = .ok (.imul, 1) := by decide +kernel
theorem dX10_fillsRests_113 : decode cX10_fillsRests 113 = .ok (.iconst 1, 1) := by decide +kernel
theorem dX10_fillsRests_114 : decode cX10_fillsRests 114 = .ok (.iadd, 1) := by decide +kernel
theorem dX10_fillsRests_115 : decode cX10_fillsRests 115 = .ok (.aload_n 0, 1) := by decide +kernel
theorem dX10_fillsRests_116 : decode cX10_fillsRests 116 = .ok (.iload_n 2, 1) := by decide +kernel
theorem dX10_fillsRests_117 : decode cX10_fillsRests 117 = .ok (.invokevirtual 308, 3) := by decide +kernel
theorem dX10_fillsRests_120 : decode cX10_fillsRests 120 = .ok (.iastore, 1) := by decide +kernel
theorem dX10_fillsRests_121 : decode cX10_fillsRests 121 = .ok (.aload_n 0, 1) := by decide +kernel
theorem dX10_fillsRests_122 : decode cX10_fillsRests 122 = .ok (.invokevirtual 399, 3) := by decide +kernel
theorem dX10_fillsRests_125 : decode cX10_fillsRests 125 = .ok (.iinc 5 1, 3) := by decide +kernel
theorem dX10_fillsRests_128 : decode cX10_fillsRests 128 = .ok (.goto (-96), 3) := by decide +kernel
theorem dX10_fillsRests_131 : decode cX10_fillsRests 131 = .ok (.iinc 4 1, 3) := by decide +kernel
theorem dX10_fillsRests_134 : decode cX10_fillsRests 134 = .ok (.goto (-116), 3) := by decide +kernel
theorem dX10_fillsRests_137 : decode cX10_fillsRests 137 = .ok (.aload_n 0, 1) := by decide +kernel
theorem dX10_fillsRests_138 : decode cX10_fillsRests 138 = .ok (.iconst 0, 1) := by decide +kernel
theorem dX10_fillsRests_139 : decode cX10_fillsRests 139 = .ok (.putfield 358, 3) := by decide +kernel
theorem dX10_fillsRests_142 : decode cX10_fillsRests 142 = .ok (.return_, 1) := by decide +kernel
def f_X10_fillsRests_32 (k18 : (Int32) → mm_S → Option (mm_S)) (a0 : Nat) (i1 : Int32) (i2 : Int32) (i3 : Int32) (i4 : Int32) (i5 : Int32) (σ : mm_S) : Option (mm_S) :=
  lp lpN (fun (k32 : (Int32) → mm_S → Option (mm_S)) (v : Int32) (σ : mm_S) =>
    gd (3 : Int32) 121 <|
    if (σ.1 224 (3 : Int32).toNatClampNeg) ≤ v then
      lt (i4 + Int32.ofInt (1)) fun x3 =>
      k18 x3 σ
    else
      if i4 = i1 then
        lt (v + Int32.ofInt (1)) fun x6 =>
        k32 x6 σ
      else
        if v = i2 then
          lt (v + Int32.ofInt (1)) fun x33 =>
          k32 x33 σ
        else
          gd i1 6 <|
          lt (su_i σ 225 i1.toNatClampNeg i4) fun σ10 =>
          gd i2 6 <|
          lt (su_i σ10 225 i2.toNatClampNeg v) fun σ13 =>
          bv (f_X10_passesAll a0 i3 σ13) fun σ16 =>
          bd (f_X10_tiredOf a0 i1 σ16) fun r19 σ18 =>
          gd ((2 : Int32) * (((6 : Int32) * i4) + v)) 72 <|
          lt (su_i σ18 233 ((2 : Int32) * (((6 : Int32) * i4) + v)).toNatClampNeg r19) fun σ21 =>
          bd (f_X10_tiredOf a0 i2 σ21) fun r25 σ24 =>
          gd (((2 : Int32) * (((6 : Int32) * i4) + v)) + (1 : Int32)) 72 <|
          lt (su_i σ24 233 (((2 : Int32) * (((6 : Int32) * i4) + v)) + (1 : Int32)).toNatClampNeg r25) fun σ27 =>
          bv (f_X10_laysBack a0 σ27) fun σ30 =>
          lt (v + Int32.ofInt (1)) fun x31 =>
          k32 x31 σ30) i5 σ
theorem v_X10_fillsRests_32 {g : mm_G} (d : Nat) {k18 : (Int32) → mm_S → Option (mm_S)} {a0 : Nat} {i1 : Int32} {i2 : Int32} {i3 : Int32} {i4 : Int32} {i5 : Int32} {σ : mm_S} {res : mm_S} (H18 : ∀ v σ, k18 v σ = some res → SV g (d + 8) yy_X10_fillsRests 18 [(0, .ref a0), (1, .int i1), (2, .int i2), (3, .int i3), (4, .int v)] [] σ .null res) (h_a0 : (mm_K a0).1 = 10) (h : f_X10_fillsRests_32 k18 a0 i1 i2 i3 i4 i5 σ = some res) : SV g (d + 8) yy_X10_fillsRests 32 [(0, .ref a0), (1, .int i1), (2, .int i2), (3, .int i3), (4, .int i4), (5, .int i5)] [] σ .null res := by
  unfold f_X10_fillsRests_32 at h
  refine lp_ind (P := fun v σ => SV g (d + 8) yy_X10_fillsRests 32 [(0, .ref a0), (1, .int i1), (2, .int i2), (3, .int i3), (4, .int i4), (5, .int v)] [] σ .null res) (fun k32 H32 v σ h => ?_) _ i5 σ h
  refine e_iload 5 dX10_fillsRests_32  rfl ?_
  refine e_aload_n 0 dX10_fillsRests_34 rfl rfl ?_
  refine s_getr dX10_fillsRests_35 fl_RX10_39 h_a0 (r_10_20 h_a0).1 ?_
  refine e_iconst (v := (3 : Int32)) dX10_fillsRests_38 (by decide) ?_
  obtain ⟨q1, h⟩ := gd_some h
  refine s_iald dX10_fillsRests_39 (r_10_20 (w := 0) h_a0).2 q1 ?_
  refine e_icmp_ge 131 dX10_fillsRests_40 (by decide) (fun c2 => ?_) (fun c2 => ?_)
  · rw [if_pos c2] at h
    obtain ⟨x3, q4, h⟩ := lt_some h
    refine e_iinc (v := x3) (L' := [(0, .ref a0), (1, .int i1), (2, .int i2), (3, .int i3), (4, .int x3), (5, .int v)]) 4 dX10_fillsRests_131 rfl q4.symm (by decide) rfl ?_
    refine e_goto 18 dX10_fillsRests_134 (by decide) ?_
    refine s_pick (L' := [(0, .ref a0), (1, .int i1), (2, .int i2), (3, .int i3), (4, .int x3)]) [0, 1, 2, 3, 4] rfl ?_
    exact H18 x3 σ h
  · rw [if_neg c2] at h
    refine e_iload 4 dX10_fillsRests_43  rfl ?_
    refine e_iload_n 1 dX10_fillsRests_45 rfl rfl ?_
    refine e_icmp_eq 125 dX10_fillsRests_46 (by decide) (fun c5 => ?_) (fun c5 => ?_)
    · rw [if_pos c5] at h
      obtain ⟨x6, q7, h⟩ := lt_some h
      refine e_iinc (v := x6) (L' := [(0, .ref a0), (1, .int i1), (2, .int i2), (3, .int i3), (4, .int i4), (5, .int x6)]) 5 dX10_fillsRests_125 rfl q7.symm (by decide) rfl ?_
      refine e_goto 32 dX10_fillsRests_128 (by decide) ?_
      refine s_pick (L' := [(0, .ref a0), (1, .int i1), (2, .int i2), (3, .int i3), (4, .int i4), (5, .int x6)]) [0, 1, 2, 3, 4, 5] rfl ?_
      exact H32 x6 σ h
    · rw [if_neg c5] at h
      refine e_iload 5 dX10_fillsRests_49  rfl ?_
      refine e_iload_n 2 dX10_fillsRests_51 rfl rfl ?_
      refine e_icmp_ne 58 dX10_fillsRests_52 (by decide) (fun c8 => ?_) (fun c8 => ?_)
      · rw [if_neg c8] at h
        refine e_aload_n 0 dX10_fillsRests_58 rfl rfl ?_
        refine s_getr dX10_fillsRests_59 fl_RX10_52 h_a0 (r_10_26 h_a0).1 ?_
        refine e_iload_n 1 dX10_fillsRests_62 rfl rfl ?_
        refine e_iload 4 dX10_fillsRests_63  rfl ?_
        obtain ⟨q9, h⟩ := gd_some h
        refine s_iast dX10_fillsRests_65 (r_10_26 (w := 0) h_a0).2 q9 ?_
        obtain ⟨σ10, q11, h⟩ := lt_some h
        refine s_nms q11 ?_
        refine e_aload_n 0 dX10_fillsRests_66 rfl rfl ?_
        refine s_getr dX10_fillsRests_67 fl_RX10_52 h_a0 (r_10_26 h_a0).1 ?_
        refine e_iload_n 2 dX10_fillsRests_70 rfl rfl ?_
        refine e_iload 5 dX10_fillsRests_71  rfl ?_
        obtain ⟨q12, h⟩ := gd_some h
        refine s_iast dX10_fillsRests_73 (r_10_26 (w := 0) h_a0).2 q12 ?_
        obtain ⟨σ13, q14, h⟩ := lt_some h
        refine s_nms q14 ?_
        refine e_aload_n 0 dX10_fillsRests_74 rfl rfl ?_
        refine e_iload_n 3 dX10_fillsRests_75 rfl rfl ?_
        obtain ⟨σ16, q15, h⟩ := bv_some h
        refine s_callVv [.int i3] dX10_fillsRests_76 ml_RX10_396 h_a0 rfl rfl (v_X10_passesAll (d + 0) h_a0 q15) (Nat.le_of_ble_eq_true rfl) ?_
        refine e_aload_n 0 dX10_fillsRests_79 rfl rfl ?_
        refine s_getr dX10_fillsRests_80 fl_RX10_76 h_a0 (r_10_38 h_a0).1 ?_
        refine e_iconst (v := (2 : Int32)) dX10_fillsRests_83 (by decide) ?_
        refine e_bipush (v := (6 : Int32)) dX10_fillsRests_84 (by decide) ?_
        refine e_iload 4 dX10_fillsRests_86  rfl ?_
        refine e_imul dX10_fillsRests_88 ?_
        refine e_iload 5 dX10_fillsRests_89  rfl ?_
        refine e_iadd dX10_fillsRests_91 ?_
        refine e_imul dX10_fillsRests_92 ?_
        refine e_aload_n 0 dX10_fillsRests_93 rfl rfl ?_
        refine e_iload_n 1 dX10_fillsRests_94 rfl rfl ?_
        obtain ⟨r19, σ18, q17, h⟩ := bd_some h
        refine s_callVi [.int i1] dX10_fillsRests_95 ml_RX10_308 h_a0 ⟨_, rfl, by decide⟩ rfl (v_X10_tiredOf (d + 7) h_a0 q17) (Nat.le_of_ble_eq_true rfl) ?_
        obtain ⟨q20, h⟩ := gd_some h
        refine s_iast dX10_fillsRests_98 (r_10_38 (w := 0) h_a0).2 q20 ?_
        obtain ⟨σ21, q22, h⟩ := lt_some h
        refine s_nms q22 ?_
        refine e_aload_n 0 dX10_fillsRests_99 rfl rfl ?_
        refine s_getr dX10_fillsRests_100 fl_RX10_76 h_a0 (r_10_38 h_a0).1 ?_
        refine e_iconst (v := (2 : Int32)) dX10_fillsRests_103 (by decide) ?_
        refine e_bipush (v := (6 : Int32)) dX10_fillsRests_104 (by decide) ?_
        refine e_iload 4 dX10_fillsRests_106  rfl ?_
        refine e_imul dX10_fillsRests_108 ?_
        refine e_iload 5 dX10_fillsRests_109  rfl ?_
        refine e_iadd dX10_fillsRests_111 ?_
        refine e_imul dX10_fillsRests_112 ?_
        refine e_iconst (v := (1 : Int32)) dX10_fillsRests_113 (by decide) ?_
        refine e_iadd dX10_fillsRests_114 ?_
        refine e_aload_n 0 dX10_fillsRests_115 rfl rfl ?_
        refine e_iload_n 2 dX10_fillsRests_116 rfl rfl ?_
        obtain ⟨r25, σ24, q23, h⟩ := bd_some h
        refine s_callVi [.int i2] dX10_fillsRests_117 ml_RX10_308 h_a0 ⟨_, rfl, by decide⟩ rfl (v_X10_tiredOf (d + 7) h_a0 q23) (Nat.le_of_ble_eq_true rfl) ?_
        obtain ⟨q26, h⟩ := gd_some h
        refine s_iast dX10_fillsRests_120 (r_10_38 (w := 0) h_a0).2 q26 ?_
        obtain ⟨σ27, q28, h⟩ := lt_some h
        refine s_nms q28 ?_
        refine e_aload_n 0 dX10_fillsRests_121 rfl rfl ?_
        obtain ⟨σ30, q29, h⟩ := bv_some h
        refine s_callVv [] dX10_fillsRests_122 ml_RX10_399 h_a0 rfl rfl (v_X10_laysBack (d + 7) h_a0 q29) (Nat.le_of_ble_eq_true rfl) ?_
        obtain ⟨x31, q32, h⟩ := lt_some h
        refine e_iinc (v := x31) (L' := [(0, .ref a0), (1, .int i1), (2, .int i2), (3, .int i3), (4, .int i4), (5, .int x31)]) 5 dX10_fillsRests_125 rfl q32.symm (by decide) rfl ?_
        refine e_goto 32 dX10_fillsRests_128 (by decide) ?_
        refine s_pick (L' := [(0, .ref a0), (1, .int i1), (2, .int i2), (3, .int i3), (4, .int i4), (5, .int x31)]) [0, 1, 2, 3, 4, 5] rfl ?_
        exact H32 x31 σ30 h
      · rw [if_pos c8] at h
        refine e_goto 125 dX10_fillsRests_55 (by decide) ?_
        obtain ⟨x33, q34, h⟩ := lt_some h
        refine e_iinc (v := x33) (L' := [(0, .ref a0), (1, .int i1), (2, .int i2), (3, .int i3), (4, .int i4), (5, .int x33)]) 5 dX10_fillsRests_125 rfl q34.symm (by decide) rfl ?_
        refine e_goto 32 dX10_fillsRests_128 (by decide) ?_
        refine s_pick (L' := [(0, .ref a0), (1, .int i1), (2, .int i2), (3, .int i3), (4, .int i4), (5, .int x33)]) [0, 1, 2, 3, 4, 5] rfl ?_
        exact H32 x33 σ h
def f_X10_fillsRests_18 (a0 : Nat) (i1 : Int32) (i2 : Int32) (i3 : Int32) (i4 : Int32) (σ : mm_S) : Option (mm_S) :=
  lp lpN (fun (k18 : (Int32) → mm_S → Option (mm_S)) (v : Int32) (σ : mm_S) =>
    gd (3 : Int32) 121 <|
    if (σ.1 224 (3 : Int32).toNatClampNeg) ≤ v then
      lt (su_i σ a0 25 (0 : Int32)) fun σ37 =>
      some σ37
    else
      f_X10_fillsRests_32 k18 a0 i1 i2 i3 v (0 : Int32) σ) i4 σ
theorem v_X10_fillsRests_18 {g : mm_G} (d : Nat) {a0 : Nat} {i1 : Int32} {i2 : Int32} {i3 : Int32} {i4 : Int32} {σ : mm_S} {res : mm_S}  (h_a0 : (mm_K a0).1 = 10) (h : f_X10_fillsRests_18 a0 i1 i2 i3 i4 σ = some res) : SV g (d + 8) yy_X10_fillsRests 18 [(0, .ref a0), (1, .int i1), (2, .int i2), (3, .int i3), (4, .int i4)] [] σ .null res := by
  unfold f_X10_fillsRests_18 at h
  refine lp_ind (P := fun v σ => SV g (d + 8) yy_X10_fillsRests 18 [(0, .ref a0), (1, .int i1), (2, .int i2), (3, .int i3), (4, .int v)] [] σ .null res) (fun k18 H18 v σ h => ?_) _ i4 σ h
  refine e_iload 4 dX10_fillsRests_18  rfl ?_
  refine e_aload_n 0 dX10_fillsRests_20 rfl rfl ?_
  refine s_getr dX10_fillsRests_21 fl_RX10_39 h_a0 (r_10_20 h_a0).1 ?_
  refine e_iconst (v := (3 : Int32)) dX10_fillsRests_24 (by decide) ?_
  obtain ⟨q35, h⟩ := gd_some h
  refine s_iald dX10_fillsRests_25 (r_10_20 (w := 0) h_a0).2 q35 ?_
  refine e_icmp_ge 137 dX10_fillsRests_26 (by decide) (fun c36 => ?_) (fun c36 => ?_)
  · rw [if_pos c36] at h
    refine e_aload_n 0 dX10_fillsRests_137 rfl rfl ?_
    refine e_iconst (v := (0 : Int32)) dX10_fillsRests_138 (by decide) ?_
    refine s_puti dX10_fillsRests_139 fl_RX10_358 h_a0 rfl rfl rfl ?_
    obtain ⟨σ37, q38, h⟩ := lt_some h
    refine s_nms q38 ?_
    obtain rfl := Option.some.inj h
    exact s_ret rfl rfl dX10_fillsRests_142
  · rw [if_neg c36] at h
    refine e_iconst (v := (0 : Int32)) dX10_fillsRests_29 (by decide) ?_
    refine e_istore (L' := [(0, .ref a0), (1, .int i1), (2, .int i2), (3, .int i3), (4, .int v), (5, .int (0 : Int32))]) dX10_fillsRests_30  (by decide) rfl ?_
    refine s_pick (L' := [(0, .ref a0), (1, .int i1), (2, .int i2), (3, .int i3), (4, .int v), (5, .int (0 : Int32))]) [0, 1, 2, 3, 4, 5] rfl ?_
    exact v_X10_fillsRests_32 d H18 h_a0 h
def f_X10_fillsRests (a0 : Nat) (i1 : Int32) (i2 : Int32) (i3 : Int32) (σ : mm_S) : Option (mm_S) :=
    bv (f_X10_keeps a0 σ) fun σ44 =>
    lt (su_i σ44 a0 25 (((1 : Int32) <<< (i1 &&& 31)) ||| ((1 : Int32) <<< (i2 &&& 31)))) fun σ45 =>
    f_X10_fillsRests_18 a0 i1 i2 i3 (0 : Int32) σ45
theorem v_X10_fillsRests {g : mm_G} (d : Nat) {a0 : Nat} {i1 : Int32} {i2 : Int32} {i3 : Int32} {σ : mm_S} {res : mm_S} (h_a0 : (mm_K a0).1 = 10) (h : f_X10_fillsRests a0 i1 i2 i3 σ = some res) : SM g (d + 8) yy_X10_fillsRests [.ref a0, .int i1, .int i2, .int i3] σ .null res := by
  refine s_of (by decide) (Nat.le_of_ble_eq_true rfl) (L := [(0, .ref a0), (1, .int i1), (2, .int i2), (3, .int i3)]) rfl ?_
  unfold f_X10_fillsRests at h
  refine e_aload_n 0 dX10_fillsRests_0 rfl rfl ?_
  obtain ⟨σ44, q43, h⟩ := bv_some h
  refine s_callVv [] dX10_fillsRests_1 ml_RX10_393 h_a0 rfl rfl (v_X10_keeps (d + 7) h_a0 q43) (Nat.le_of_ble_eq_true rfl) ?_
  refine e_aload_n 0 dX10_fillsRests_4 rfl rfl ?_
  refine e_iconst (v := (1 : Int32)) dX10_fillsRests_5 (by decide) ?_
  refine e_iload_n 1 dX10_fillsRests_6 rfl rfl ?_
  refine e_ishl dX10_fillsRests_7 ?_
  refine e_iconst (v := (1 : Int32)) dX10_fillsRests_8 (by decide) ?_
  refine e_iload_n 2 dX10_fillsRests_9 rfl rfl ?_
  refine e_ishl dX10_fillsRests_10 ?_
  refine e_ior dX10_fillsRests_11 ?_
  refine s_puti dX10_fillsRests_12 fl_RX10_358 h_a0 rfl rfl rfl ?_
  obtain ⟨σ45, q46, h⟩ := lt_some h
  refine s_nms q46 ?_
  refine e_iconst (v := (0 : Int32)) dX10_fillsRests_15 (by decide) ?_
  refine e_istore (L' := [(0, .ref a0), (1, .int i1), (2, .int i2), (3, .int i3), (4, .int (0 : Int32))]) dX10_fillsRests_16  (by decide) rfl ?_
  refine s_pick (L' := [(0, .ref a0), (1, .int i1), (2, .int i2), (3, .int i3), (4, .int (0 : Int32))]) [0, 1, 2, 3, 4] rfl ?_
  exact v_X10_fillsRests_18 d h_a0 h
abbrev yy_X10_rests : mm_Y := (yX10_rests, cX10_rests, 10, (some .int))
theorem dX10_rests_0 : decode cX10_rests 0 = .ok (.aload_n 0, 1) := by decide +kernel
theorem dX10_rests_1 : decode cX10_rests 1 = .ok (.iload_n 1, 1) := by decide +kernel
theorem dX10_rests_2 : decode cX10_rests 2 = .ok (.iload_n 2, 1) := by decide +kernel
theorem dX10_rests_3 : decode cX10_rests 3 = .ok (.invokevirtual 325, 3) := by decide +kernel
theorem dX10_rests_6 : decode cX10_rests 6 = .ok (.ifCond .eq 28, 3) := by decide +kernel
theorem dX10_rests_9 : decode cX10_rests 9 = .ok (.iload_n 3, 1) := by decide +kernel
theorem dX10_rests_10 : decode cX10_rests 10 = .ok (.i2l, 1) := by decide +kernel
theorem dX10_rests_11 : decode cX10_rests 11 = .ok (.lconst 1, 1) := by decide +kernel
theorem dX10_rests_12 : decode cX10_rests 12 = .ok (.ldc2_w 387, 3) := by decide +kernel
theorem dX10_rests_15 : decode cX10_rests 15 = .ok (.invokestatic 136, 3) := by decide +kernel
theorem dX10_rests_18 : decode cX10_rests 18 = .ok (.ifCond .eq 16, 3) := by decide +kernel
theorem dX10_rests_21 : decode cX10_rests 21 = .ok (.iload 4, 2) := by decide +kernel
theorem dX10_rests_23 : decode cX10_rests 23 = .ok (.i2l, 1) := by decide +kernel
theorem dX10_rests_24 : decode cX10_rests 24 = .ok (.lconst 0, 1) := by decide +kernel
theorem dX10_rests_25 : decode cX10_rests 25 = .ok (.ldc2_w 391, 3) := by decide +kernel
theorem dX10_rests_28 : decode cX10_rests 28 = .ok (.invokestatic 136, 3) := by decide +kernel
theorem dX10_rests_31 : decode cX10_rests 31 = .ok (.ifCond .ne 5, 3) := by decide +kernel
theorem dX10_rests_34 : decode cX10_rests 34 = .ok (.iconst (-1), 1) := by decide +kernel
theorem dX10_rests_35 : decode cX10_rests 35 = .ok (.ireturn, 1) := by decide +kernel
theorem dX10_rests_36 : decode cX10_rests 36 = .ok (.aload_n 0, 1) := by decide +kernel
theorem dX10_rests_37 : decode cX10_rests 37 = .ok (.iload_n 1, 1) := by decide +kernel
theorem dX10_rests_38 : decode cX10_rests 38 = .ok (.iload_n 2, 1) := by decide +kernel
theorem dX10_rests_39 : decode cX10_rests 39 = .ok (.iload_n 3, 1) := by decide +kernel
theorem dX10_rests_40 : decode cX10_rests 40 = .ok (.invokevirtual 436, 3) := by decide +kernel
theorem dX10_rests_43 : decode cX10_rests 43 = .ok (.iconst 0, 1) := by decide +kernel
theorem dX10_rests_44 : decode cX10_rests 44 = .ok (.istore 5, 2) := by decide +kernel
theorem dX10_rests_46 : decode cX10_rests 46 = .ok (.bipush (-2), 2) := by decide +kernel
theorem dX10_rests_48 : decode cX10_rests 48 = .ok (.istore 6, 2) := by decide +kernel
theorem dX10_rests_50 : decode cX10_rests 50 = .ok (.bipush (-2), 2) := by decide +kernel
theorem dX10_rests_52 : decode cX10_rests 52 = .ok (.istore 7, 2) := by decide +kernel
theorem dX10_rests_54 : decode cX10_rests 54 = .ok (.iconst 0, 1) := by decide +kernel
theorem dX10_rests_55 : decode cX10_rests 55 = .ok (.istore 8, 2) := by decide +kernel
theorem dX10_rests_57 : decode cX10_rests 57 = .ok (.iload 8, 2) := by decide +kernel
theorem dX10_rests_59 : decode cX10_rests 59 = .ok (.aload_n 0, 1) := by decide +kernel
theorem dX10_rests_60 : decode cX10_rests 60 = .ok (.getfield 39, 3) := by decide +kernel
theorem dX10_rests_63 : decode cX10_rests 63 = .ok (.iconst 3, 1) := by decide +kernel
theorem dX10_rests_64 : decode cX10_rests 64 = .ok (.iaload, 1) := by decide +kernel
theorem dX10_rests_65 : decode cX10_rests 65 = .ok (.if_icmp .ge 73, 3) := by decide +kernel
theorem dX10_rests_68 : decode cX10_rests 68 = .ok (.iconst 0, 1) := by decide +kernel
theorem dX10_rests_69 : decode cX10_rests 69 = .ok (.istore 9, 2) := by decide +kernel
theorem dX10_rests_71 : decode cX10_rests 71 = .ok (.iload 9, 2) := by decide +kernel
theorem dX10_rests_73 : decode cX10_rests 73 = .ok (.aload_n 0, 1) := by decide +kernel
theorem dX10_rests_74 : decode cX10_rests 74 = .ok (.getfield 39, 3) := by decide +kernel
theorem dX10_rests_77 : decode cX10_rests 77 = .ok (.iconst 3, 1) := by decide +kernel
theorem dX10_rests_78 : decode cX10_rests 78 = .ok (.iaload, 1) := by decide +kernel
theorem dX10_rests_79 : decode cX10_rests 79 = .ok (.if_icmp .ge 53, 3) := by decide +kernel
theorem dX10_rests_82 : decode cX10_rests 82 = .ok (.iload 8, 2) := by decide +kernel
theorem dX10_rests_84 : decode cX10_rests 84 = .ok (.iload_n 1, 1) := by decide +kernel
theorem dX10_rests_85 : decode cX10_rests 85 = .ok (.if_icmp .eq 41, 3) := by decide +kernel
theorem dX10_rests_88 : decode cX10_rests 88 = .ok (.iload 9, 2) := by decide +kernel
theorem dX10_rests_90 : decode cX10_rests 90 = .ok (.iload_n 2, 1) := by decide +kernel
theorem dX10_rests_91 : decode cX10_rests 91 = .ok (.if_icmp .eq 35, 3) := by decide +kernel
theorem dX10_rests_94 : decode cX10_rests 94 = .ok (.aload_n 0, 1) := by decide +kernel
theorem dX10_rests_95 : decode cX10_rests 95 = .ok (.iload_n 1, 1) := by decide +kernel
theorem dX10_rests_96 : decode cX10_rests 96 = .ok (.iload_n 2, 1) := by decide +kernel
theorem dX10_rests_97 : decode cX10_rests 97 = .ok (.iload 8, 2) := by decide +kernel
theorem dX10_rests_99 : decode cX10_rests 99 = .ok (.iload 9, 2) := by decide +kernel
theorem dX10_rests_101 : decode cX10_rests 101 = .ok (.invokevirtual 440, 3) := by decide +kernel
theorem dX10_rests_104 : decode cX10_rests 104 = .ok (.ifCond .ne 6, 3) := by decide +kernel
theorem dX10_rests_107 : decode cX10_rests 107 = .ok (.goto 19, 3) := by decide +kernel
theorem dX10_rests_110 : decode cX10_rests 110 = .ok (.iload 5, 2) := by decide +kernel
theorem dX10_rests_112 : decode cX10_rests 112 = .ok (.ifCond .ne 11, 3) := by decide +kernel
theorem dX10_rests_115 : decode cX10_rests 115 = .ok (.iload 8, 2) := by decide +kernel
theorem dX10_rests_117 : decode cX10_rests 117 = .ok (.istore 6, 2) := by decide +kernel
theorem dX10_rests_119 : decode cX10_rests 119 = .ok (.iload 9, 2) := by decide +kernel
theorem dX10_rests_121 : decode cX10_rests 121 = .ok (.istore 7, 2) := by decide +kernel
theorem dX10_rests_123 : decode cX10_rests 123 = .ok (.iinc 5 1, 3) := by decide +kernel
theorem dX10_rests_126 : decode cX10_rests 126 = .ok (.iinc 9 1, 3) := by decide +kernel
theorem dX10_rests_129 : decode cX10_rests 129 = .ok (.goto (-58), 3) := by decide +kernel
theorem dX10_rests_132 : decode cX10_rests 132 = .ok (.iinc 8 1, 3) := by decide +kernel
theorem dX10_rests_135 : decode cX10_rests 135 = .ok (.goto (-78), 3) := by decide +kernel
theorem dX10_rests_138 : decode cX10_rests 138 = .ok (.iload 4, 2) := by decide +kernel
theorem dX10_rests_140 : decode cX10_rests 140 = .ok (.ifCond .ne 8, 3) := by decide +kernel
theorem dX10_rests_143 : decode cX10_rests 143 = .ok (.iload 5, 2) := by decide +kernel
theorem dX10_rests_145 : decode cX10_rests 145 = .ok (.goto 16, 3) := by decide +kernel
theorem dX10_rests_148 : decode cX10_rests 148 = .ok (.iload 4, 2) := by decide +kernel
theorem dX10_rests_150 : decode cX10_rests 150 = .ok (.iconst 1, 1) := by decide +kernel
theorem dX10_rests_151 : decode cX10_rests 151 = .ok (.if_icmp .ne 8, 3) := by decide +kernel
theorem dX10_rests_154 : decode cX10_rests 154 = .ok (.iload 6, 2) := by decide +kernel
theorem dX10_rests_156 : decode cX10_rests 156 = .ok (.goto 5, 3) := by decide +kernel
theorem dX10_rests_159 : decode cX10_rests 159 = .ok (.iload 7, 2) := by decide +kernel
theorem dX10_rests_161 : decode cX10_rests 161 = .ok (.ireturn, 1) := by decide +kernel
def f_X10_rests_71 (k57 : (Int32 × Int32 × Int32 × Int32) → mm_S → Option (Int32 × mm_S)) (a0 : Nat) (i1 : Int32) (i2 : Int32) (i4 : Int32) (i5 : Int32) (i6 : Int32) (i7 : Int32) (i8 : Int32) (i9 : Int32) (σ : mm_S) : Option (Int32 × mm_S) :=
  lp lpN (fun (k71 : (Int32 × Int32 × Int32 × Int32) → mm_S → Option (Int32 × mm_S)) (v : Int32 × Int32 × Int32 × Int32) (σ : mm_S) =>
    gd (3 : Int32) 121 <|
    if (σ.1 224 (3 : Int32).toNatClampNeg) ≤ v.2.2.2 then
      lt (i8 + Int32.ofInt (1)) fun x3 =>
      k57 (v.1, v.2.1, v.2.2.1, x3) σ
    else
      if i8 = i1 then
        lt (v.2.2.2 + Int32.ofInt (1)) fun x6 =>
        k71 (v.1, v.2.1, v.2.2.1, x6) σ
      else
        if v.2.2.2 = i2 then
          lt (v.2.2.2 + Int32.ofInt (1)) fun x9 =>
          k71 (v.1, v.2.1, v.2.2.1, x9) σ
        else
          bd (f_X10_isRest a0 i1 i2 i8 v.2.2.2 σ) fun r13 σ12 =>
          if r13 = 0 then
            lt (v.2.2.2 + Int32.ofInt (1)) fun x24 =>
            k71 (v.1, v.2.1, v.2.2.1, x24) σ12
          else
            if v.1 = 0 then
              lt (v.1 + Int32.ofInt (1)) fun x20 =>
              lt (v.2.2.2 + Int32.ofInt (1)) fun x22 =>
              k71 (x20, i8, v.2.2.2, x22) σ12
            else
              lt (v.1 + Int32.ofInt (1)) fun x16 =>
              lt (v.2.2.2 + Int32.ofInt (1)) fun x18 =>
              k71 (x16, v.2.1, v.2.2.1, x18) σ12) (i5, i6, i7, i9) σ
theorem v_X10_rests_71 {g : mm_G} (d : Nat) {k57 : (Int32 × Int32 × Int32 × Int32) → mm_S → Option (Int32 × mm_S)} {a0 : Nat} {i1 : Int32} {i2 : Int32} {i4 : Int32} {i5 : Int32} {i6 : Int32} {i7 : Int32} {i8 : Int32} {i9 : Int32} {σ : mm_S} {res : Int32 × mm_S} (H57 : ∀ v σ, k57 v σ = some res → SV g (d + 9) yy_X10_rests 57 [(0, .ref a0), (1, .int i1), (2, .int i2), (4, .int i4), (5, .int v.1), (6, .int v.2.1), (7, .int v.2.2.1), (8, .int v.2.2.2)] [] σ (.int res.1) res.2) (h_a0 : (mm_K a0).1 = 10) (h : f_X10_rests_71 k57 a0 i1 i2 i4 i5 i6 i7 i8 i9 σ = some res) : SV g (d + 9) yy_X10_rests 71 [(0, .ref a0), (1, .int i1), (2, .int i2), (4, .int i4), (5, .int i5), (6, .int i6), (7, .int i7), (8, .int i8), (9, .int i9)] [] σ (.int res.1) res.2 := by
  unfold f_X10_rests_71 at h
  refine lp_ind (P := fun v σ => SV g (d + 9) yy_X10_rests 71 [(0, .ref a0), (1, .int i1), (2, .int i2), (4, .int i4), (5, .int v.1), (6, .int v.2.1), (7, .int v.2.2.1), (8, .int i8), (9, .int v.2.2.2)] [] σ (.int res.1) res.2) (fun k71 H71 v σ h => ?_) _ (i5, i6, i7, i9) σ h
  refine e_iload 8 dX10_rests_71  rfl ?_
  refine e_aload_n 0 dX10_rests_73 rfl rfl ?_
  refine s_getr dX10_rests_74 fl_RX10_39 h_a0 (r_10_20 h_a0).1 ?_
  refine e_iconst (v := (3 : Int32)) dX10_rests_77 (by decide) ?_
  obtain ⟨q1, h⟩ := gd_some h
  refine s_iald dX10_rests_78 (r_10_20 (w := 0) h_a0).2 q1 ?_
  refine e_icmp_ge 132 dX10_rests_79 (by decide) (fun c2 => ?_) (fun c2 => ?_)
  · rw [if_pos c2] at h
    obtain ⟨x3, q4, h⟩ := lt_some h
    refine e_iinc (v := x3) (L' := [(0, .ref a0), (1, .int i1), (2, .int i2), (4, .int i4), (5, .int v.1), (6, .int v.2.1), (7, .int v.2.2.1), (8, .int x3), (9, .int v.2.2.2)]) 7 dX10_rests_132 rfl q4.symm (by decide) rfl ?_
    refine e_goto 57 dX10_rests_135 (by decide) ?_
    refine s_pick (L' := [(0, .ref a0), (1, .int i1), (2, .int i2), (4, .int i4), (5, .int v.1), (6, .int v.2.1), (7, .int v.2.2.1), (8, .int x3)]) [0, 1, 2, 3, 4, 5, 6, 7] rfl ?_
    exact H57 (v.1, v.2.1, v.2.2.1, x3) σ h
  · rw [if_neg c2] at h
    refine e_iload 7 dX10_rests_82  rfl ?_
    refine e_iload_n 1 dX10_rests_84 rfl rfl ?_
    refine e_icmp_eq 126 dX10_rests_85 (by decide) (fun c5 => ?_) (fun c5 => ?_)
    · rw [if_pos c5] at h
      obtain ⟨x6, q7, h⟩ := lt_some h
      refine e_iinc (v := x6) (L' := [(0, .ref a0), (1, .int i1), (2, .int i2), (4, .int i4), (5, .int v.1), (6, .int v.2.1), (7, .int v.2.2.1), (8, .int i8), (9, .int x6)]) 8 dX10_rests_126 rfl q7.symm (by decide) rfl ?_
      refine e_goto 71 dX10_rests_129 (by decide) ?_
      refine s_pick (L' := [(0, .ref a0), (1, .int i1), (2, .int i2), (4, .int i4), (5, .int v.1), (6, .int v.2.1), (7, .int v.2.2.1), (8, .int i8), (9, .int x6)]) [0, 1, 2, 3, 4, 5, 6, 7, 8] rfl ?_
      exact H71 (v.1, v.2.1, v.2.2.1, x6) σ h
    · rw [if_neg c5] at h
      refine e_iload 8 dX10_rests_88  rfl ?_
      refine e_iload_n 2 dX10_rests_90 rfl rfl ?_
      refine e_icmp_eq 126 dX10_rests_91 (by decide) (fun c8 => ?_) (fun c8 => ?_)
      · rw [if_pos c8] at h
        obtain ⟨x9, q10, h⟩ := lt_some h
        refine e_iinc (v := x9) (L' := [(0, .ref a0), (1, .int i1), (2, .int i2), (4, .int i4), (5, .int v.1), (6, .int v.2.1), (7, .int v.2.2.1), (8, .int i8), (9, .int x9)]) 8 dX10_rests_126 rfl q10.symm (by decide) rfl ?_
        refine e_goto 71 dX10_rests_129 (by decide) ?_
        refine s_pick (L' := [(0, .ref a0), (1, .int i1), (2, .int i2), (4, .int i4), (5, .int v.1), (6, .int v.2.1), (7, .int v.2.2.1), (8, .int i8), (9, .int x9)]) [0, 1, 2, 3, 4, 5, 6, 7, 8] rfl ?_
        exact H71 (v.1, v.2.1, v.2.2.1, x9) σ h
      · rw [if_neg c8] at h
        refine e_aload_n 0 dX10_rests_94 rfl rfl ?_
        refine e_iload_n 1 dX10_rests_95 rfl rfl ?_
        refine e_iload_n 2 dX10_rests_96 rfl rfl ?_
        refine e_iload 7 dX10_rests_97  rfl ?_
        refine e_iload 8 dX10_rests_99  rfl ?_
        obtain ⟨r13, σ12, q11, h⟩ := bd_some h
        refine s_callVi [.int i1, .int i2, .int i8, .int v.2.2.2] dX10_rests_101 ml_RX10_440 h_a0 ⟨_, rfl, by decide⟩ rfl (v_X10_isRest (d + 8) h_a0 q11) (Nat.le_of_ble_eq_true rfl) ?_
        refine e_if_ne 110 dX10_rests_104 (by decide) (fun c14 => ?_) (fun c14 => ?_)
        · rw [if_neg c14] at h
          refine e_iload 4 dX10_rests_110  rfl ?_
          refine e_if_ne 123 dX10_rests_112 (by decide) (fun c15 => ?_) (fun c15 => ?_)
          · rw [if_neg c15] at h
            obtain ⟨x16, q17, h⟩ := lt_some h
            refine e_iinc (v := x16) (L' := [(0, .ref a0), (1, .int i1), (2, .int i2), (4, .int i4), (5, .int x16), (6, .int v.2.1), (7, .int v.2.2.1), (8, .int i8), (9, .int v.2.2.2)]) 4 dX10_rests_123 rfl q17.symm (by decide) rfl ?_
            obtain ⟨x18, q19, h⟩ := lt_some h
            refine e_iinc (v := x18) (L' := [(0, .ref a0), (1, .int i1), (2, .int i2), (4, .int i4), (5, .int x16), (6, .int v.2.1), (7, .int v.2.2.1), (8, .int i8), (9, .int x18)]) 8 dX10_rests_126 rfl q19.symm (by decide) rfl ?_
            refine e_goto 71 dX10_rests_129 (by decide) ?_
            refine s_pick (L' := [(0, .ref a0), (1, .int i1), (2, .int i2), (4, .int i4), (5, .int x16), (6, .int v.2.1), (7, .int v.2.2.1), (8, .int i8), (9, .int x18)]) [0, 1, 2, 3, 4, 5, 6, 7, 8] rfl ?_
            exact H71 (x16, v.2.1, v.2.2.1, x18) σ12 h
          · rw [if_pos c15] at h
            refine e_iload 7 dX10_rests_115  rfl ?_
            refine e_istore (L' := [(0, .ref a0), (1, .int i1), (2, .int i2), (4, .int i4), (5, .int v.1), (6, .int i8), (7, .int v.2.2.1), (8, .int i8), (9, .int v.2.2.2)]) dX10_rests_117  (by decide) rfl ?_
            refine e_iload 8 dX10_rests_119  rfl ?_
            refine e_istore (L' := [(0, .ref a0), (1, .int i1), (2, .int i2), (4, .int i4), (5, .int v.1), (6, .int i8), (7, .int v.2.2.2), (8, .int i8), (9, .int v.2.2.2)]) dX10_rests_121  (by decide) rfl ?_
            obtain ⟨x20, q21, h⟩ := lt_some h
            refine e_iinc (v := x20) (L' := [(0, .ref a0), (1, .int i1), (2, .int i2), (4, .int i4), (5, .int x20), (6, .int i8), (7, .int v.2.2.2), (8, .int i8), (9, .int v.2.2.2)]) 4 dX10_rests_123 rfl q21.symm (by decide) rfl ?_
            obtain ⟨x22, q23, h⟩ := lt_some h
            refine e_iinc (v := x22) (L' := [(0, .ref a0), (1, .int i1), (2, .int i2), (4, .int i4), (5, .int x20), (6, .int i8), (7, .int v.2.2.2), (8, .int i8), (9, .int x22)]) 8 dX10_rests_126 rfl q23.symm (by decide) rfl ?_
            refine e_goto 71 dX10_rests_129 (by decide) ?_
            refine s_pick (L' := [(0, .ref a0), (1, .int i1), (2, .int i2), (4, .int i4), (5, .int x20), (6, .int i8), (7, .int v.2.2.2), (8, .int i8), (9, .int x22)]) [0, 1, 2, 3, 4, 5, 6, 7, 8] rfl ?_
            exact H71 (x20, i8, v.2.2.2, x22) σ12 h
        · rw [if_pos c14] at h
          refine e_goto 126 dX10_rests_107 (by decide) ?_
          obtain ⟨x24, q25, h⟩ := lt_some h
          refine e_iinc (v := x24) (L' := [(0, .ref a0), (1, .int i1), (2, .int i2), (4, .int i4), (5, .int v.1), (6, .int v.2.1), (7, .int v.2.2.1), (8, .int i8), (9, .int x24)]) 8 dX10_rests_126 rfl q25.symm (by decide) rfl ?_
          refine e_goto 71 dX10_rests_129 (by decide) ?_
          refine s_pick (L' := [(0, .ref a0), (1, .int i1), (2, .int i2), (4, .int i4), (5, .int v.1), (6, .int v.2.1), (7, .int v.2.2.1), (8, .int i8), (9, .int x24)]) [0, 1, 2, 3, 4, 5, 6, 7, 8] rfl ?_
          exact H71 (v.1, v.2.1, v.2.2.1, x24) σ12 h
def f_X10_rests_57 (a0 : Nat) (i1 : Int32) (i2 : Int32) (i4 : Int32) (i5 : Int32) (i6 : Int32) (i7 : Int32) (i8 : Int32) (σ : mm_S) : Option (Int32 × mm_S) :=
  lp lpN (fun (k57 : (Int32 × Int32 × Int32 × Int32) → mm_S → Option (Int32 × mm_S)) (v : Int32 × Int32 × Int32 × Int32) (σ : mm_S) =>
    gd (3 : Int32) 121 <|
    if (σ.1 224 (3 : Int32).toNatClampNeg) ≤ v.2.2.2 then
      if i4 = 0 then
        some (v.1, σ)
      else
        if i4 = (1 : Int32) then
          some (v.2.1, σ)
        else
          some (v.2.2.1, σ)
    else
      f_X10_rests_71 k57 a0 i1 i2 i4 v.1 v.2.1 v.2.2.1 v.2.2.2 (0 : Int32) σ) (i5, i6, i7, i8) σ
theorem v_X10_rests_57 {g : mm_G} (d : Nat) {a0 : Nat} {i1 : Int32} {i2 : Int32} {i4 : Int32} {i5 : Int32} {i6 : Int32} {i7 : Int32} {i8 : Int32} {σ : mm_S} {res : Int32 × mm_S}  (h_a0 : (mm_K a0).1 = 10) (h : f_X10_rests_57 a0 i1 i2 i4 i5 i6 i7 i8 σ = some res) : SV g (d + 9) yy_X10_rests 57 [(0, .ref a0), (1, .int i1), (2, .int i2), (4, .int i4), (5, .int i5), (6, .int i6), (7, .int i7), (8, .int i8)] [] σ (.int res.1) res.2 := by
  unfold f_X10_rests_57 at h
  refine lp_ind (P := fun v σ => SV g (d + 9) yy_X10_rests 57 [(0, .ref a0), (1, .int i1), (2, .int i2), (4, .int i4), (5, .int v.1), (6, .int v.2.1), (7, .int v.2.2.1), (8, .int v.2.2.2)] [] σ (.int res.1) res.2) (fun k57 H57 v σ h => ?_) _ (i5, i6, i7, i8) σ h
  refine e_iload 7 dX10_rests_57  rfl ?_
  refine e_aload_n 0 dX10_rests_59 rfl rfl ?_
  refine s_getr dX10_rests_60 fl_RX10_39 h_a0 (r_10_20 h_a0).1 ?_
  refine e_iconst (v := (3 : Int32)) dX10_rests_63 (by decide) ?_
  obtain ⟨q26, h⟩ := gd_some h
  refine s_iald dX10_rests_64 (r_10_20 (w := 0) h_a0).2 q26 ?_
  refine e_icmp_ge 138 dX10_rests_65 (by decide) (fun c27 => ?_) (fun c27 => ?_)
  · rw [if_pos c27] at h
    refine e_iload 3 dX10_rests_138  rfl ?_
    refine e_if_ne 148 dX10_rests_140 (by decide) (fun c28 => ?_) (fun c28 => ?_)
    · rw [if_neg c28] at h
      refine e_iload 3 dX10_rests_148  rfl ?_
      refine e_iconst (v := (1 : Int32)) dX10_rests_150 (by decide) ?_
      refine e_icmp_ne 159 dX10_rests_151 (by decide) (fun c29 => ?_) (fun c29 => ?_)
      · rw [if_neg c29] at h
        refine e_iload 6 dX10_rests_159  rfl ?_
        obtain rfl := Option.some.inj h
        exact s_ret rfl ⟨_, rfl, rfl⟩ dX10_rests_161
      · rw [if_pos c29] at h
        refine e_iload 5 dX10_rests_154  rfl ?_
        refine e_goto 161 dX10_rests_156 (by decide) ?_
        obtain rfl := Option.some.inj h
        exact s_ret rfl ⟨_, rfl, rfl⟩ dX10_rests_161
    · rw [if_pos c28] at h
      refine e_iload 4 dX10_rests_143  rfl ?_
      refine e_goto 161 dX10_rests_145 (by decide) ?_
      obtain rfl := Option.some.inj h
      exact s_ret rfl ⟨_, rfl, rfl⟩ dX10_rests_161
  · rw [if_neg c27] at h
    refine e_iconst (v := (0 : Int32)) dX10_rests_68 (by decide) ?_
    refine e_istore (L' := [(0, .ref a0), (1, .int i1), (2, .int i2), (4, .int i4), (5, .int v.1), (6, .int v.2.1), (7, .int v.2.2.1), (8, .int v.2.2.2), (9, .int (0 : Int32))]) dX10_rests_69  (by decide) rfl ?_
    refine s_pick (L' := [(0, .ref a0), (1, .int i1), (2, .int i2), (4, .int i4), (5, .int v.1), (6, .int v.2.1), (7, .int v.2.2.1), (8, .int v.2.2.2), (9, .int (0 : Int32))]) [0, 1, 2, 3, 4, 5, 6, 7, 8] rfl ?_
    exact v_X10_rests_71 d H57 h_a0 h
def f_X10_rests (a0 : Nat) (i1 : Int32) (i2 : Int32) (i3 : Int32) (i4 : Int32) (σ : mm_S) : Option (Int32 × mm_S) :=
    bd (f_X10_areTwo a0 i1 i2 σ) fun r46 σ45 =>
    if r46 = 0 then
      some ((-1 : Int32), σ45)
    else
      bd (f_X10_in (i3 : Int32).toInt64 (1 : Int64) (20 : Int64) σ45) fun r50 σ49 =>
      if r50 = 0 then
        some ((-1 : Int32), σ49)
      else
        bd (f_X10_in (i4 : Int32).toInt64 (0 : Int64) (2 : Int64) σ49) fun r54 σ53 =>
        if r54 = 0 then
          some ((-1 : Int32), σ53)
        else
          bv (f_X10_fillsRests a0 i1 i2 i3 σ53) fun σ57 =>
          f_X10_rests_57 a0 i1 i2 i4 (0 : Int32) (-2 : Int32) (-2 : Int32) (0 : Int32) σ57
theorem v_X10_rests {g : mm_G} (d : Nat) {a0 : Nat} {i1 : Int32} {i2 : Int32} {i3 : Int32} {i4 : Int32} {σ : mm_S} {res : Int32 × mm_S} (h_a0 : (mm_K a0).1 = 10) (h : f_X10_rests a0 i1 i2 i3 i4 σ = some res) : SM g (d + 9) yy_X10_rests [.ref a0, .int i1, .int i2, .int i3, .int i4] σ (.int res.1) res.2 := by
  refine s_of (by decide) (Nat.le_of_ble_eq_true rfl) (L := [(0, .ref a0), (1, .int i1), (2, .int i2), (3, .int i3), (4, .int i4)]) rfl ?_
  unfold f_X10_rests at h
  refine e_aload_n 0 dX10_rests_0 rfl rfl ?_
  refine e_iload_n 1 dX10_rests_1 rfl rfl ?_
  refine e_iload_n 2 dX10_rests_2 rfl rfl ?_
  obtain ⟨r46, σ45, q44, h⟩ := bd_some h
  refine s_callVi [.int i1, .int i2] dX10_rests_3 ml_RX10_325 h_a0 ⟨_, rfl, by decide⟩ rfl (v_X10_areTwo (d + 7) h_a0 q44) (Nat.le_of_ble_eq_true rfl) ?_
  refine e_if_eq 34 dX10_rests_6 (by decide) (fun c47 => ?_) (fun c47 => ?_)
  · rw [if_pos c47] at h
    refine e_iconst (v := (-1 : Int32)) dX10_rests_34 (by decide) ?_
    obtain rfl := Option.some.inj h
    exact s_ret rfl ⟨_, rfl, rfl⟩ dX10_rests_35
  · rw [if_neg c47] at h
    refine e_iload_n 3 dX10_rests_9 rfl rfl ?_
    refine e_i2l dX10_rests_10 ?_
    refine e_lconst (v := (1 : Int64)) dX10_rests_11 (by decide) ?_
    refine e_ldc2 dX10_rests_12 co_RX10_387 ?_
    obtain ⟨r50, σ49, q48, h⟩ := bd_some h
    refine s_callSi [.long (i3 : Int32).toInt64, .long (1 : Int64), .long (20 : Int64)] dX10_rests_15 ml_RX10_136 ⟨_, rfl, by decide⟩ rfl (v_X10_in (d + 8)  q48) (Nat.le_of_ble_eq_true rfl) ?_
    refine e_if_eq 34 dX10_rests_18 (by decide) (fun c51 => ?_) (fun c51 => ?_)
    · rw [if_pos c51] at h
      refine e_iconst (v := (-1 : Int32)) dX10_rests_34 (by decide) ?_
      obtain rfl := Option.some.inj h
      exact s_ret rfl ⟨_, rfl, rfl⟩ dX10_rests_35
    · rw [if_neg c51] at h
      refine e_iload 4 dX10_rests_21  rfl ?_
      refine e_i2l dX10_rests_23 ?_
      refine e_lconst (v := (0 : Int64)) dX10_rests_24 (by decide) ?_
      refine e_ldc2 dX10_rests_25 co_RX10_391 ?_
      obtain ⟨r54, σ53, q52, h⟩ := bd_some h
      refine s_callSi [.long (i4 : Int32).toInt64, .long (0 : Int64), .long (2 : Int64)] dX10_rests_28 ml_RX10_136 ⟨_, rfl, by decide⟩ rfl (v_X10_in (d + 8)  q52) (Nat.le_of_ble_eq_true rfl) ?_
      refine e_if_ne 36 dX10_rests_31 (by decide) (fun c55 => ?_) (fun c55 => ?_)
      · rw [if_neg c55] at h
        refine e_aload_n 0 dX10_rests_36 rfl rfl ?_
        refine e_iload_n 1 dX10_rests_37 rfl rfl ?_
        refine e_iload_n 2 dX10_rests_38 rfl rfl ?_
        refine e_iload_n 3 dX10_rests_39 rfl rfl ?_
        obtain ⟨σ57, q56, h⟩ := bv_some h
        refine s_callVv [.int i1, .int i2, .int i3] dX10_rests_40 ml_RX10_436 h_a0 rfl rfl (v_X10_fillsRests (d + 0) h_a0 q56) (Nat.le_of_ble_eq_true rfl) ?_
        refine e_iconst (v := (0 : Int32)) dX10_rests_43 (by decide) ?_
        refine e_istore (L' := [(0, .ref a0), (1, .int i1), (2, .int i2), (3, .int i3), (4, .int i4), (5, .int (0 : Int32))]) dX10_rests_44  (by decide) rfl ?_
        refine e_bipush (v := (-2 : Int32)) dX10_rests_46 (by decide) ?_
        refine e_istore (L' := [(0, .ref a0), (1, .int i1), (2, .int i2), (3, .int i3), (4, .int i4), (5, .int (0 : Int32)), (6, .int (-2 : Int32))]) dX10_rests_48  (by decide) rfl ?_
        refine e_bipush (v := (-2 : Int32)) dX10_rests_50 (by decide) ?_
        refine e_istore (L' := [(0, .ref a0), (1, .int i1), (2, .int i2), (3, .int i3), (4, .int i4), (5, .int (0 : Int32)), (6, .int (-2 : Int32)), (7, .int (-2 : Int32))]) dX10_rests_52  (by decide) rfl ?_
        refine e_iconst (v := (0 : Int32)) dX10_rests_54 (by decide) ?_
        refine e_istore (L' := [(0, .ref a0), (1, .int i1), (2, .int i2), (3, .int i3), (4, .int i4), (5, .int (0 : Int32)), (6, .int (-2 : Int32)), (7, .int (-2 : Int32)), (8, .int (0 : Int32))]) dX10_rests_55  (by decide) rfl ?_
        refine s_pick (L' := [(0, .ref a0), (1, .int i1), (2, .int i2), (4, .int i4), (5, .int (0 : Int32)), (6, .int (-2 : Int32)), (7, .int (-2 : Int32)), (8, .int (0 : Int32))]) [0, 1, 2, 4, 5, 6, 7, 8] rfl ?_
        exact v_X10_rests_57 d h_a0 h
      · rw [if_pos c55] at h
        refine e_iconst (v := (-1 : Int32)) dX10_rests_34 (by decide) ?_
        obtain rfl := Option.some.inj h
        exact s_ret rfl ⟨_, rfl, rfl⟩ dX10_rests_35
