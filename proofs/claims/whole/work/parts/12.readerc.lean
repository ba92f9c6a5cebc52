abbrev yy_X4_wordEnd : mm_Y := (yX4_wordEnd, cX4_wordEnd, 3, (some .int))
theorem dX4_wordEnd_0 : decode cX4_wordEnd 0 = .ok (.iload_n 1, 1) := by decide +kernel
theorem dX4_wordEnd_1 : decode cX4_wordEnd 1 = .ok (.iconst 1, 1) := by decide +kernel
theorem dX4_wordEnd_2 : decode cX4_wordEnd 2 = .ok (.iadd, 1) := by decide +kernel
theorem dX4_wordEnd_3 : decode cX4_wordEnd 3 = .ok (.istore_n 2, 1) := by decide +kernel
theorem dX4_wordEnd_4 : decode cX4_wordEnd 4 = .ok (.iload_n 2, 1) := by decide +kernel
theorem dX4_wordEnd_5 : decode cX4_wordEnd 5 = .ok (.aload_n 0, 1) := by decide +kernel
theorem dX4_wordEnd_6 : decode cX4_wordEnd 6 = .ok (.getfield 21, 3) := by decide +kernel
theorem dX4_wordEnd_9 : decode cX4_wordEnd 9 = .ok (.getfield 53, 3) := by decide +kernel
theorem dX4_wordEnd_12 : decode cX4_wordEnd 12 = .ok (.if_icmp .ge 17, 3) := by decide +kernel
theorem dX4_wordEnd_15 : decode cX4_wordEnd 15 = .ok (.aload_n 0, 1) := by decide +kernel
theorem dX4_wordEnd_16 : decode cX4_wordEnd 16 = .ok (.iload_n 2, 1) := by decide +kernel
theorem dX4_wordEnd_17 : decode cX4_wordEnd 17 = .ok (.invokevirtual 58, 3) := by decide +kernel
theorem dX4_wordEnd_20 : decode cX4_wordEnd 20 = .ok (.ifCond .eq 9, 3) := by decide +kernel
theorem dX4_wordEnd_23 : decode cX4_wordEnd 23 = .ok (.iinc 2 1, 3) := by decide +kernel
theorem dX4_wordEnd_26 : decode cX4_wordEnd 26 = .ok (.goto (-22), 3) := by decide +kernel
theorem dX4_wordEnd_29 : decode cX4_wordEnd 29 = .ok (.iload_n 2, 1) := by decide +kernel
theorem dX4_wordEnd_30 : decode cX4_wordEnd 30 = .ok (.ireturn, 1) := by decide +kernel
def f_X4_wordEnd_4 (a0 : Nat) (i2 : Int32) (σ : mm_S) : Option (Int32 × mm_S) :=
  lp lpN (fun (k4 : (Int32) → mm_S → Option (Int32 × mm_S)) (v : Int32) (σ : mm_S) =>
    if (σ.1 1 1) ≤ v then
      some (v, σ)
    else
      bd (f_X4_isLetter a0 v σ) fun r4 σ3 =>
      if r4 = 0 then
        some (v, σ3)
      else
        lt (v + Int32.ofInt (1)) fun x6 =>
        k4 x6 σ3) i2 σ
theorem v_X4_wordEnd_4 {g : mm_G} (d : Nat) {a0 : Nat} {i2 : Int32} {σ : mm_S} {res : Int32 × mm_S}  (h_a0 : (mm_K a0).1 = 4) (h : f_X4_wordEnd_4 a0 i2 σ = some res) : SV g (d + 1) yy_X4_wordEnd 4 [(0, .ref a0), (2, .int i2)] [] σ (.int res.1) res.2 := by
  unfold f_X4_wordEnd_4 at h
  refine lp_ind (P := fun v σ => SV g (d + 1) yy_X4_wordEnd 4 [(0, .ref a0), (2, .int v)] [] σ (.int res.1) res.2) (fun k4 H4 v σ h => ?_) _ i2 σ h
  refine e_iload_n 1 dX4_wordEnd_4 rfl rfl ?_
  refine e_aload_n 0 dX4_wordEnd_5 rfl rfl ?_
  refine s_getr dX4_wordEnd_6 fl_RX4_21 h_a0 (r_4_0 h_a0).1 ?_
  refine s_geti dX4_wordEnd_9 fl_RX4_53 (ka_1 (r_4_0 (w := 0) h_a0).2) ?_
  refine e_icmp_ge 29 dX4_wordEnd_12 (by decide) (fun c1 => ?_) (fun c1 => ?_)
  · rw [if_pos c1] at h
    refine e_iload_n 1 dX4_wordEnd_29 rfl rfl ?_
    obtain rfl := Option.some.inj h
    exact s_ret rfl ⟨_, rfl, rfl⟩ dX4_wordEnd_30
  · rw [if_neg c1] at h
    refine e_aload_n 0 dX4_wordEnd_15 rfl rfl ?_
    refine e_iload_n 1 dX4_wordEnd_16 rfl rfl ?_
    obtain ⟨r4, σ3, q2, h⟩ := bd_some h
    refine s_callVi [.int v] dX4_wordEnd_17 ml_RX4_58 h_a0 ⟨_, rfl, by decide⟩ rfl (v_X4_isLetter (d + 0) h_a0 q2) (Nat.le_of_ble_eq_true rfl) ?_
    refine e_if_eq 29 dX4_wordEnd_20 (by decide) (fun c5 => ?_) (fun c5 => ?_)
    · rw [if_pos c5] at h
      refine e_iload_n 1 dX4_wordEnd_29 rfl rfl ?_
      obtain rfl := Option.some.inj h
      exact s_ret rfl ⟨_, rfl, rfl⟩ dX4_wordEnd_30
    · rw [if_neg c5] at h
      obtain ⟨x6, q7, h⟩ := lt_some h
      refine e_iinc (v := x6) (L' := [(0, .ref a0), (2, .int x6)]) 1 dX4_wordEnd_23 rfl q7.symm (by decide) rfl ?_
      refine e_goto 4 dX4_wordEnd_26 (by decide) ?_
      refine s_pick (L' := [(0, .ref a0), (2, .int x6)]) [0, 1] rfl ?_
      exact H4 x6 σ3 h
def f_X4_wordEnd (a0 : Nat) (i1 : Int32) (σ : mm_S) : Option (Int32 × mm_S) :=
    lt ((i1 + (1 : Int32))) fun x10 =>
    f_X4_wordEnd_4 a0 x10 σ
theorem v_X4_wordEnd {g : mm_G} (d : Nat) {a0 : Nat} {i1 : Int32} {σ : mm_S} {res : Int32 × mm_S} (h_a0 : (mm_K a0).1 = 4) (h : f_X4_wordEnd a0 i1 σ = some res) : SM g (d + 1) yy_X4_wordEnd [.ref a0, .int i1] σ (.int res.1) res.2 := by
  refine s_of (by decide) (Nat.le_of_ble_eq_true rfl) (L := [(0, .ref a0), (1, .int i1)]) rfl ?_
  unfold f_X4_wordEnd at h
  refine e_iload_n 1 dX4_wordEnd_0 rfl rfl ?_
  refine e_iconst (v := (1 : Int32)) dX4_wordEnd_1 (by decide) ?_
  refine e_iadd dX4_wordEnd_2 ?_
  obtain ⟨x10, q11, h⟩ := lt_some h
  refine s_nmi q11 ?_
  refine e_istore_n (L' := [(0, .ref a0), (1, .int i1), (2, .int x10)]) dX4_wordEnd_3 rfl (by decide) rfl ?_
  refine s_pick (L' := [(0, .ref a0), (2, .int x10)]) [0, 2] rfl ?_
  exact v_X4_wordEnd_4 d h_a0 h
abbrev yy_X4_wordOf : mm_Y := (yX4_wordOf, cX4_wordOf, 8, (some .int))
theorem dX4_wordOf_0 : decode cX4_wordOf 0 = .ok (.iconst 0, 1) := by decide +kernel
theorem dX4_wordOf_1 : decode cX4_wordOf 1 = .ok (.istore_n 3, 1) := by decide +kernel
theorem dX4_wordOf_2 : decode cX4_wordOf 2 = .ok (.iload_n 1, 1) := by decide +kernel
theorem dX4_wordOf_3 : decode cX4_wordOf 3 = .ok (.istore 4, 2) := by decide +kernel
theorem dX4_wordOf_5 : decode cX4_wordOf 5 = .ok (.iconst 1, 1) := by decide +kernel
theorem dX4_wordOf_6 : decode cX4_wordOf 6 = .ok (.istore 5, 2) := by decide +kernel
theorem dX4_wordOf_8 : decode cX4_wordOf 8 = .ok (.iconst 0, 1) := by decide +kernel
theorem dX4_wordOf_9 : decode cX4_wordOf 9 = .ok (.istore 6, 2) := by decide +kernel
theorem dX4_wordOf_11 : decode cX4_wordOf 11 = .ok (.iload 6, 2) := by decide +kernel
theorem dX4_wordOf_13 : decode cX4_wordOf 13 = .ok (.ldc 93, 2) := by decide +kernel
theorem dX4_wordOf_15 : decode cX4_wordOf 15 = .ok (.invokevirtual 95, 3) := by decide +kernel
theorem dX4_wordOf_18 : decode cX4_wordOf 18 = .ok (.if_icmp .ge 86, 3) := by decide +kernel
theorem dX4_wordOf_21 : decode cX4_wordOf 21 = .ok (.ldc 93, 2) := by decide +kernel
theorem dX4_wordOf_23 : decode cX4_wordOf 23 = .ok (.iload 6, 2) := by decide +kernel
theorem dX4_wordOf_25 : decode cX4_wordOf 25 = .ok (.invokevirtual 100, 3) := by decide +kernel
theorem dX4_wordOf_28 : decode cX4_wordOf 28 = .ok (.istore 7, 2) := by decide +kernel
theorem dX4_wordOf_30 : decode cX4_wordOf 30 = .ok (.iload 7, 2) := by decide +kernel
theorem dX4_wordOf_32 : decode cX4_wordOf 32 = .ok (.bipush 32, 2) := by decide +kernel
theorem dX4_wordOf_34 : decode cX4_wordOf 34 = .ok (.if_icmp .eq 42, 3) := by decide +kernel
theorem dX4_wordOf_37 : decode cX4_wordOf 37 = .ok (.iload 5, 2) := by decide +kernel
theorem dX4_wordOf_39 : decode cX4_wordOf 39 = .ok (.ifCond .eq 28, 3) := by decide +kernel
theorem dX4_wordOf_42 : decode cX4_wordOf 42 = .ok (.iload 4, 2) := by decide +kernel
theorem dX4_wordOf_44 : decode cX4_wordOf 44 = .ok (.iload_n 2, 1) := by decide +kernel
theorem dX4_wordOf_45 : decode cX4_wordOf 45 = .ok (.if_icmp .ge 22, 3) := by decide +kernel
theorem dX4_wordOf_48 : decode cX4_wordOf 48 = .ok (.aload_n 0, 1) := by decide +kernel
theorem dX4_wordOf_49 : decode cX4_wordOf 49 = .ok (.getfield 21, 3) := by decide +kernel
theorem dX4_wordOf_52 : decode cX4_wordOf 52 = .ok (.getfield 83, 3) := by decide +kernel
theorem dX4_wordOf_55 : decode cX4_wordOf 55 = .ok (.iload 4, 2) := by decide +kernel
theorem dX4_wordOf_57 : decode cX4_wordOf 57 = .ok (.baload, 1) := by decide +kernel
theorem dX4_wordOf_58 : decode cX4_wordOf 58 = .ok (.iload 7, 2) := by decide +kernel
theorem dX4_wordOf_60 : decode cX4_wordOf 60 = .ok (.if_icmp .ne 7, 3) := by decide +kernel
theorem dX4_wordOf_63 : decode cX4_wordOf 63 = .ok (.iconst 1, 1) := by decide +kernel
theorem dX4_wordOf_64 : decode cX4_wordOf 64 = .ok (.goto 4, 3) := by decide +kernel
theorem dX4_wordOf_67 : decode cX4_wordOf 67 = .ok (.iconst 0, 1) := by decide +kernel
theorem dX4_wordOf_68 : decode cX4_wordOf 68 = .ok (.istore 5, 2) := by decide +kernel
theorem dX4_wordOf_70 : decode cX4_wordOf 70 = .ok (.iinc 4 1, 3) := by decide +kernel
theorem dX4_wordOf_73 : decode cX4_wordOf 73 = .ok (.goto 25, 3) := by decide +kernel
theorem dX4_wordOf_76 : decode cX4_wordOf 76 = .ok (.iload 5, 2) := by decide +kernel
theorem dX4_wordOf_78 : decode cX4_wordOf 78 = .ok (.ifCond .eq 11, 3) := by decide +kernel
theorem dX4_wordOf_81 : decode cX4_wordOf 81 = .ok (.iload 4, 2) := by decide +kernel
theorem dX4_wordOf_83 : decode cX4_wordOf 83 = .ok (.iload_n 2, 1) := by decide +kernel
theorem dX4_wordOf_84 : decode cX4_wordOf 84 = .ok (.if_icmp .ne 5, 3) := by decide +kernel
theorem dX4_wordOf_87 : decode cX4_wordOf 87 = .ok (.iload_n 3, 1) := by decide +kernel
theorem dX4_wordOf_88 : decode cX4_wordOf 88 = .ok (.ireturn, 1) := by decide +kernel
theorem dX4_wordOf_89 : decode cX4_wordOf 89 = .ok (.iinc 3 1, 3) := by decide +kernel
theorem dX4_wordOf_92 : decode cX4_wordOf 92 = .ok (.iload_n 1, 1) := by decide +kernel
theorem dX4_wordOf_93 : decode cX4_wordOf 93 = .ok (.istore 4, 2) := by decide +kernel
theorem dX4_wordOf_95 : decode cX4_wordOf 95 = .ok (.iconst 1, 1) := by decide +kernel
theorem dX4_wordOf_96 : decode cX4_wordOf 96 = .ok (.istore 5, 2) := by decide +kernel
theorem dX4_wordOf_98 : decode cX4_wordOf 98 = .ok (.iinc 6 1, 3) := by decide +kernel
theorem dX4_wordOf_101 : decode cX4_wordOf 101 = .ok (.goto (-90), 3) := by decide +kernel
theorem dX4_wordOf_104 : decode cX4_wordOf 104 = .ok (.iconst (-1), 1) := by decide +kernel
theorem dX4_wordOf_105 : decode cX4_wordOf 105 = .ok (.ireturn, 1) := by decide +kernel
def f_X4_wordOf_89 (k11 : (Int32 × Int32 × Int32 × Int32) → mm_S → Option (Int32 × mm_S)) (a0 : Nat) (i1 : Int32) (i2 : Int32) (i3 : Int32) (i6 : Int32) (σ : mm_S) : Option (Int32 × mm_S) :=
    lt (i3 + Int32.ofInt (1)) fun x1 =>
    lt (i6 + Int32.ofInt (1)) fun x3 =>
    k11 (x1, i1, (1 : Int32), x3) σ
theorem v_X4_wordOf_89 {g : mm_G} (d : Nat) {k11 : (Int32 × Int32 × Int32 × Int32) → mm_S → Option (Int32 × mm_S)} {a0 : Nat} {i1 : Int32} {i2 : Int32} {i3 : Int32} {i6 : Int32} {σ : mm_S} {res : Int32 × mm_S} (H11 : ∀ v σ, k11 v σ = some res → SV g (d + 4) yy_X4_wordOf 11 [(0, .ref a0), (1, .int i1), (2, .int i2), (3, .int v.1), (4, .int v.2.1), (5, .int v.2.2.1), (6, .int v.2.2.2)] [] σ (.int res.1) res.2) (h_a0 : (mm_K a0).1 = 4) (h : f_X4_wordOf_89 k11 a0 i1 i2 i3 i6 σ = some res) : SV g (d + 4) yy_X4_wordOf 89 [(0, .ref a0), (1, .int i1), (2, .int i2), (3, .int i3), (6, .int i6)] [] σ (.int res.1) res.2 := by
  unfold f_X4_wordOf_89 at h
  obtain ⟨x1, q2, h⟩ := lt_some h
  refine e_iinc (v := x1) (L' := [(0, .ref a0), (1, .int i1), (2, .int i2), (3, .int x1), (6, .int i6)]) 3 dX4_wordOf_89 rfl q2.symm (by decide) rfl ?_
  refine e_iload_n 1 dX4_wordOf_92 rfl rfl ?_
  refine e_istore (L' := [(0, .ref a0), (1, .int i1), (2, .int i2), (3, .int x1), (4, .int i1), (6, .int i6)]) dX4_wordOf_93  (by decide) rfl ?_
  refine e_iconst (v := (1 : Int32)) dX4_wordOf_95 (by decide) ?_
  refine e_istore (L' := [(0, .ref a0), (1, .int i1), (2, .int i2), (3, .int x1), (4, .int i1), (5, .int (1 : Int32)), (6, .int i6)]) dX4_wordOf_96  (by decide) rfl ?_
  obtain ⟨x3, q4, h⟩ := lt_some h
  refine e_iinc (v := x3) (L' := [(0, .ref a0), (1, .int i1), (2, .int i2), (3, .int x1), (4, .int i1), (5, .int (1 : Int32)), (6, .int x3)]) 6 dX4_wordOf_98 rfl q4.symm (by decide) rfl ?_
  refine e_goto 11 dX4_wordOf_101 (by decide) ?_
  refine s_pick (L' := [(0, .ref a0), (1, .int i1), (2, .int i2), (3, .int x1), (4, .int i1), (5, .int (1 : Int32)), (6, .int x3)]) [0, 1, 2, 3, 4, 5, 6] rfl ?_
  exact H11 (x1, i1, (1 : Int32), x3) σ h
def f_X4_wordOf_68 (k11 : (Int32 × Int32 × Int32 × Int32) → mm_S → Option (Int32 × mm_S)) (a0 : Nat) (i1 : Int32) (i2 : Int32) (i3 : Int32) (i4 : Int32) (i6 : Int32) (s0 : Int32) (σ : mm_S) : Option (Int32 × mm_S) :=
    lt (i4 + Int32.ofInt (1)) fun x5 =>
    lt (i6 + Int32.ofInt (1)) fun x7 =>
    k11 (i3, x5, s0, x7) σ
theorem v_X4_wordOf_68 {g : mm_G} (d : Nat) {k11 : (Int32 × Int32 × Int32 × Int32) → mm_S → Option (Int32 × mm_S)} {a0 : Nat} {i1 : Int32} {i2 : Int32} {i3 : Int32} {i4 : Int32} {i6 : Int32} {s0 : Int32} {σ : mm_S} {res : Int32 × mm_S} (H11 : ∀ v σ, k11 v σ = some res → SV g (d + 4) yy_X4_wordOf 11 [(0, .ref a0), (1, .int i1), (2, .int i2), (3, .int v.1), (4, .int v.2.1), (5, .int v.2.2.1), (6, .int v.2.2.2)] [] σ (.int res.1) res.2) (h_a0 : (mm_K a0).1 = 4) (h : f_X4_wordOf_68 k11 a0 i1 i2 i3 i4 i6 s0 σ = some res) : SV g (d + 4) yy_X4_wordOf 68 [(0, .ref a0), (1, .int i1), (2, .int i2), (3, .int i3), (4, .int i4), (6, .int i6)] [.int s0] σ (.int res.1) res.2 := by
  unfold f_X4_wordOf_68 at h
  refine e_istore (L' := [(0, .ref a0), (1, .int i1), (2, .int i2), (3, .int i3), (4, .int i4), (5, .int s0), (6, .int i6)]) dX4_wordOf_68  (by decide) rfl ?_
  obtain ⟨x5, q6, h⟩ := lt_some h
  refine e_iinc (v := x5) (L' := [(0, .ref a0), (1, .int i1), (2, .int i2), (3, .int i3), (4, .int x5), (5, .int s0), (6, .int i6)]) 4 dX4_wordOf_70 rfl q6.symm (by decide) rfl ?_
  refine e_goto 98 dX4_wordOf_73 (by decide) ?_
  obtain ⟨x7, q8, h⟩ := lt_some h
  refine e_iinc (v := x7) (L' := [(0, .ref a0), (1, .int i1), (2, .int i2), (3, .int i3), (4, .int x5), (5, .int s0), (6, .int x7)]) 6 dX4_wordOf_98 rfl q8.symm (by decide) rfl ?_
  refine e_goto 11 dX4_wordOf_101 (by decide) ?_
  refine s_pick (L' := [(0, .ref a0), (1, .int i1), (2, .int i2), (3, .int i3), (4, .int x5), (5, .int s0), (6, .int x7)]) [0, 1, 2, 3, 4, 5, 6] rfl ?_
  exact H11 (i3, x5, s0, x7) σ h
def f_X4_wordOf_11 (a0 : Nat) (i1 : Int32) (i2 : Int32) (i3 : Int32) (i4 : Int32) (i5 : Int32) (i6 : Int32) (σ : mm_S) : Option (Int32 × mm_S) :=
  lp lpN (fun (k11 : (Int32 × Int32 × Int32 × Int32) → mm_S → Option (Int32 × mm_S)) (v : Int32 × Int32 × Int32 × Int32) (σ : mm_S) =>
    if (122 : Int32) ≤ v.2.2.2 then
      some ((-1 : Int32), σ)
    else
      gd v.2.2.2 122 <|
      lt ((wch v.2.2.2)) fun x11 =>
      if x11 = (32 : Int32) then
        if v.2.2.1 = 0 then
          f_X4_wordOf_89 k11 a0 i1 i2 v.1 v.2.2.2 σ
        else
          if v.2.1 = i2 then
            some (v.1, σ)
          else
            f_X4_wordOf_89 k11 a0 i1 i2 v.1 v.2.2.2 σ
      else
        if v.2.2.1 = 0 then
          f_X4_wordOf_68 k11 a0 i1 i2 v.1 v.2.1 v.2.2.2 (0 : Int32) σ
        else
          if i2 ≤ v.2.1 then
            f_X4_wordOf_68 k11 a0 i1 i2 v.1 v.2.1 v.2.2.2 (0 : Int32) σ
          else
            gd v.2.1 400 <|
            if (σ.1 2 v.2.1.toNatClampNeg) = x11 then
              f_X4_wordOf_68 k11 a0 i1 i2 v.1 v.2.1 v.2.2.2 (1 : Int32) σ
            else
              f_X4_wordOf_68 k11 a0 i1 i2 v.1 v.2.1 v.2.2.2 (0 : Int32) σ) (i3, i4, i5, i6) σ
theorem v_X4_wordOf_11 {g : mm_G} (d : Nat) {a0 : Nat} {i1 : Int32} {i2 : Int32} {i3 : Int32} {i4 : Int32} {i5 : Int32} {i6 : Int32} {σ : mm_S} {res : Int32 × mm_S}  (h_a0 : (mm_K a0).1 = 4) (h : f_X4_wordOf_11 a0 i1 i2 i3 i4 i5 i6 σ = some res) : SV g (d + 4) yy_X4_wordOf 11 [(0, .ref a0), (1, .int i1), (2, .int i2), (3, .int i3), (4, .int i4), (5, .int i5), (6, .int i6)] [] σ (.int res.1) res.2 := by
  unfold f_X4_wordOf_11 at h
  refine lp_ind (P := fun v σ => SV g (d + 4) yy_X4_wordOf 11 [(0, .ref a0), (1, .int i1), (2, .int i2), (3, .int v.1), (4, .int v.2.1), (5, .int v.2.2.1), (6, .int v.2.2.2)] [] σ (.int res.1) res.2) (fun k11 H11 v σ h => ?_) _ (i3, i4, i5, i6) σ h
  refine e_iload 6 dX4_wordOf_11  rfl ?_
  refine e_ldcS dX4_wordOf_13 rfl ?_
  refine s_callW [] dX4_wordOf_15 mw_RX4_95 ⟨_, rfl, by decide⟩ rfl (v_J0_length (d + 2)) (Nat.le_of_ble_eq_true rfl) ?_
  refine e_icmp_ge 104 dX4_wordOf_18 (by decide) (fun c9 => ?_) (fun c9 => ?_)
  · rw [if_pos c9] at h
    refine e_iconst (v := (-1 : Int32)) dX4_wordOf_104 (by decide) ?_
    obtain rfl := Option.some.inj h
    exact s_ret rfl ⟨_, rfl, rfl⟩ dX4_wordOf_105
  · rw [if_neg c9] at h
    refine e_ldcS dX4_wordOf_21 rfl ?_
    refine e_iload 6 dX4_wordOf_23  rfl ?_
    obtain ⟨q10, h⟩ := gd_some h
    refine s_callW [.int v.2.2.2] dX4_wordOf_25 mw_RX4_100 ⟨_, rfl, by decide⟩ rfl (v_J0_charAt (d + 0) q10) (Nat.le_of_ble_eq_true rfl) ?_
    obtain ⟨x11, q12, h⟩ := lt_some h
    refine s_nmi q12 ?_
    refine e_istore (L' := [(0, .ref a0), (1, .int i1), (2, .int i2), (3, .int v.1), (4, .int v.2.1), (5, .int v.2.2.1), (6, .int v.2.2.2), (7, .int x11)]) dX4_wordOf_28  (by decide) rfl ?_
    refine e_iload 7 dX4_wordOf_30  rfl ?_
    refine e_bipush (v := (32 : Int32)) dX4_wordOf_32 (by decide) ?_
    refine e_icmp_eq 76 dX4_wordOf_34 (by decide) (fun c13 => ?_) (fun c13 => ?_)
    · rw [if_pos c13] at h
      refine e_iload 5 dX4_wordOf_76  rfl ?_
      refine e_if_eq 89 dX4_wordOf_78 (by decide) (fun c14 => ?_) (fun c14 => ?_)
      · rw [if_pos c14] at h
        refine s_pick (L' := [(0, .ref a0), (1, .int i1), (2, .int i2), (3, .int v.1), (6, .int v.2.2.2)]) [0, 1, 2, 3, 6] rfl ?_
        exact v_X4_wordOf_89 d H11 h_a0 h
      · rw [if_neg c14] at h
        refine e_iload 4 dX4_wordOf_81  rfl ?_
        refine e_iload_n 2 dX4_wordOf_83 rfl rfl ?_
        refine e_icmp_ne 89 dX4_wordOf_84 (by decide) (fun c15 => ?_) (fun c15 => ?_)
        · rw [if_neg c15] at h
          refine s_pick (L' := [(0, .ref a0), (1, .int i1), (2, .int i2), (3, .int v.1), (6, .int v.2.2.2)]) [0, 1, 2, 3, 6] rfl ?_
          exact v_X4_wordOf_89 d H11 h_a0 h
        · rw [if_pos c15] at h
          refine e_iload_n 3 dX4_wordOf_87 rfl rfl ?_
          obtain rfl := Option.some.inj h
          exact s_ret rfl ⟨_, rfl, rfl⟩ dX4_wordOf_88
    · rw [if_neg c13] at h
      refine e_iload 5 dX4_wordOf_37  rfl ?_
      refine e_if_eq 67 dX4_wordOf_39 (by decide) (fun c16 => ?_) (fun c16 => ?_)
      · rw [if_pos c16] at h
        refine e_iconst (v := (0 : Int32)) dX4_wordOf_67 (by decide) ?_
        refine s_pick (L' := [(0, .ref a0), (1, .int i1), (2, .int i2), (3, .int v.1), (4, .int v.2.1), (6, .int v.2.2.2)]) [0, 1, 2, 3, 4, 6] rfl ?_
        exact v_X4_wordOf_68 d H11 h_a0 h
      · rw [if_neg c16] at h
        refine e_iload 4 dX4_wordOf_42  rfl ?_
        refine e_iload_n 2 dX4_wordOf_44 rfl rfl ?_
        refine e_icmp_ge 67 dX4_wordOf_45 (by decide) (fun c17 => ?_) (fun c17 => ?_)
        · rw [if_pos c17] at h
          refine e_iconst (v := (0 : Int32)) dX4_wordOf_67 (by decide) ?_
          refine s_pick (L' := [(0, .ref a0), (1, .int i1), (2, .int i2), (3, .int v.1), (4, .int v.2.1), (6, .int v.2.2.2)]) [0, 1, 2, 3, 4, 6] rfl ?_
          exact v_X4_wordOf_68 d H11 h_a0 h
        · rw [if_neg c17] at h
          refine e_aload_n 0 dX4_wordOf_48 rfl rfl ?_
          refine s_getr dX4_wordOf_49 fl_RX4_21 h_a0 (r_4_0 h_a0).1 ?_
          refine s_getr dX4_wordOf_52 fl_RX4_83 (ka_1 (r_4_0 (w := 0) h_a0).2) (r_6_0 (ka_1 (r_4_0 (w := 0) h_a0).2)).1 ?_
          refine e_iload 4 dX4_wordOf_55  rfl ?_
          obtain ⟨q18, h⟩ := gd_some h
          refine s_bald dX4_wordOf_57 (r_6_0 (w := 0) (ka_1 (r_4_0 (w := 0) h_a0).2)).2 q18 ?_
          refine e_iload 7 dX4_wordOf_58  rfl ?_
          refine e_icmp_ne 67 dX4_wordOf_60 (by decide) (fun c19 => ?_) (fun c19 => ?_)
          · rw [if_neg c19] at h
            refine e_iconst (v := (0 : Int32)) dX4_wordOf_67 (by decide) ?_
            refine s_pick (L' := [(0, .ref a0), (1, .int i1), (2, .int i2), (3, .int v.1), (4, .int v.2.1), (6, .int v.2.2.2)]) [0, 1, 2, 3, 4, 6] rfl ?_
            exact v_X4_wordOf_68 d H11 h_a0 h
          · rw [if_pos c19] at h
            refine e_iconst (v := (1 : Int32)) dX4_wordOf_63 (by decide) ?_
            refine e_goto 68 dX4_wordOf_64 (by decide) ?_
            refine s_pick (L' := [(0, .ref a0), (1, .int i1), (2, .int i2), (3, .int v.1), (4, .int v.2.1), (6, .int v.2.2.2)]) [0, 1, 2, 3, 4, 6] rfl ?_
            exact v_X4_wordOf_68 d H11 h_a0 h
def f_X4_wordOf (a0 : Nat) (i1 : Int32) (i2 : Int32) (σ : mm_S) : Option (Int32 × mm_S) :=
    f_X4_wordOf_11 a0 i1 i2 (0 : Int32) i1 (1 : Int32) (0 : Int32) σ
theorem v_X4_wordOf {g : mm_G} (d : Nat) {a0 : Nat} {i1 : Int32} {i2 : Int32} {σ : mm_S} {res : Int32 × mm_S} (h_a0 : (mm_K a0).1 = 4) (h : f_X4_wordOf a0 i1 i2 σ = some res) : SM g (d + 4) yy_X4_wordOf [.ref a0, .int i1, .int i2] σ (.int res.1) res.2 := by
  refine s_of (by decide) (Nat.le_of_ble_eq_true rfl) (L := [(0, .ref a0), (1, .int i1), (2, .int i2)]) rfl ?_
  unfold f_X4_wordOf at h
  refine e_iconst (v := (0 : Int32)) dX4_wordOf_0 (by decide) ?_
  refine e_istore_n (L' := [(0, .ref a0), (1, .int i1), (2, .int i2), (3, .int (0 : Int32))]) dX4_wordOf_1 rfl (by decide) rfl ?_
  refine e_iload_n 1 dX4_wordOf_2 rfl rfl ?_
  refine e_istore (L' := [(0, .ref a0), (1, .int i1), (2, .int i2), (3, .int (0 : Int32)), (4, .int i1)]) dX4_wordOf_3  (by decide) rfl ?_
  refine e_iconst (v := (1 : Int32)) dX4_wordOf_5 (by decide) ?_
  refine e_istore (L' := [(0, .ref a0), (1, .int i1), (2, .int i2), (3, .int (0 : Int32)), (4, .int i1), (5, .int (1 : Int32))]) dX4_wordOf_6  (by decide) rfl ?_
  refine e_iconst (v := (0 : Int32)) dX4_wordOf_8 (by decide) ?_
  refine e_istore (L' := [(0, .ref a0), (1, .int i1), (2, .int i2), (3, .int (0 : Int32)), (4, .int i1), (5, .int (1 : Int32)), (6, .int (0 : Int32))]) dX4_wordOf_9  (by decide) rfl ?_
  refine s_pick (L' := [(0, .ref a0), (1, .int i1), (2, .int i2), (3, .int (0 : Int32)), (4, .int i1), (5, .int (1 : Int32)), (6, .int (0 : Int32))]) [0, 1, 2, 3, 4, 5, 6] rfl ?_
  exact v_X4_wordOf_11 d h_a0 h
abbrev yy_X4_addPiece : mm_Y := (yX4_addPiece, cX4_addPiece, 4, none)
theorem dX4_addPiece_0 : decode cX4_addPiece 0 = .ok (.aload_n 0, 1) := by decide +kernel
theorem dX4_addPiece_1 : decode cX4_addPiece 1 = .ok (.getfield 41, 3) := by decide +kernel
theorem dX4_addPiece_4 : decode cX4_addPiece 4 = .ok (.sipush 400, 3) := by decide +kernel
theorem dX4_addPiece_7 : decode cX4_addPiece 7 = .ok (.if_icmp .gt 43, 3) := by decide +kernel
theorem dX4_addPiece_10 : decode cX4_addPiece 10 = .ok (.aload_n 0, 1) := by decide +kernel
theorem dX4_addPiece_11 : decode cX4_addPiece 11 = .ok (.getfield 9, 3) := by decide +kernel
theorem dX4_addPiece_14 : decode cX4_addPiece 14 = .ok (.aload_n 0, 1) := by decide +kernel
theorem dX4_addPiece_15 : decode cX4_addPiece 15 = .ok (.getfield 41, 3) := by decide +kernel
theorem dX4_addPiece_18 : decode cX4_addPiece 18 = .ok (.iload_n 1, 1) := by decide +kernel
theorem dX4_addPiece_19 : decode cX4_addPiece 19 = .ok (.iastore, 1) := by decide +kernel
theorem dX4_addPiece_20 : decode cX4_addPiece 20 = .ok (.aload_n 0, 1) := by decide +kernel
theorem dX4_addPiece_21 : decode cX4_addPiece 21 = .ok (.getfield 15, 3) := by decide +kernel
theorem dX4_addPiece_24 : decode cX4_addPiece 24 = .ok (.aload_n 0, 1) := by decide +kernel
theorem dX4_addPiece_25 : decode cX4_addPiece 25 = .ok (.getfield 41, 3) := by decide +kernel
theorem dX4_addPiece_28 : decode cX4_addPiece 28 = .ok (.iload_n 2, 1) := by decide +kernel
theorem dX4_addPiece_29 : decode cX4_addPiece 29 = .ok (.iastore, 1) := by decide +kernel
theorem dX4_addPiece_30 : decode cX4_addPiece 30 = .ok (.aload_n 0, 1) := by decide +kernel
theorem dX4_addPiece_31 : decode cX4_addPiece 31 = .ok (.getfield 18, 3) := by decide +kernel
theorem dX4_addPiece_34 : decode cX4_addPiece 34 = .ok (.aload_n 0, 1) := by decide +kernel
theorem dX4_addPiece_35 : decode cX4_addPiece 35 = .ok (.getfield 41, 3) := by decide +kernel
theorem dX4_addPiece_38 : decode cX4_addPiece 38 = .ok (.iload_n 3, 1) := by decide +kernel
theorem dX4_addPiece_39 : decode cX4_addPiece 39 = .ok (.iastore, 1) := by decide +kernel
theorem dX4_addPiece_40 : decode cX4_addPiece 40 = .ok (.aload_n 0, 1) := by decide +kernel
theorem dX4_addPiece_41 : decode cX4_addPiece 41 = .ok (.dup, 1) := by decide +kernel
theorem dX4_addPiece_42 : decode cX4_addPiece 42 = .ok (.getfield 41, 3) := by decide +kernel
theorem dX4_addPiece_45 : decode cX4_addPiece 45 = .ok (.iconst 1, 1) := by decide +kernel
theorem dX4_addPiece_46 : decode cX4_addPiece 46 = .ok (.iadd, 1) := by decide +kernel
theorem dX4_addPiece_47 : decode cX4_addPiece 47 = .ok (.putfield 41, 3) := by decide +kernel
theorem dX4_addPiece_50 : decode cX4_addPiece 50 = .ok (.return_, 1) := by decide +kernel
def f_X4_addPiece (a0 : Nat) (i1 : Int32) (i2 : Int32) (i3 : Int32) (σ : mm_S) : Option (mm_S) :=
    if (400 : Int32) < (σ.1 a0 4) then
      some σ
    else
      gd (σ.1 a0 4) 401 <|
      lt (su_i σ 4 (σ.1 a0 4).toNatClampNeg i1) fun σ15 =>
      gd (σ15.1 a0 4) 401 <|
      lt (su_i σ15 5 (σ15.1 a0 4).toNatClampNeg i2) fun σ18 =>
      gd (σ18.1 a0 4) 401 <|
      lt (su_i σ18 6 (σ18.1 a0 4).toNatClampNeg i3) fun σ21 =>
      lt (su_i σ21 a0 4 ((σ21.1 a0 4) + (1 : Int32))) fun σ23 =>
      some σ23
theorem v_X4_addPiece {g : mm_G} (d : Nat) {a0 : Nat} {i1 : Int32} {i2 : Int32} {i3 : Int32} {σ : mm_S} {res : mm_S} (h_a0 : (mm_K a0).1 = 4) (h : f_X4_addPiece a0 i1 i2 i3 σ = some res) : SM g (d + 0) yy_X4_addPiece [.ref a0, .int i1, .int i2, .int i3] σ .null res := by
  refine s_of (by decide) (Nat.le_of_ble_eq_true rfl) (L := [(0, .ref a0), (1, .int i1), (2, .int i2), (3, .int i3)]) rfl ?_
  unfold f_X4_addPiece at h
  refine e_aload_n 0 dX4_addPiece_0 rfl rfl ?_
  refine s_geti dX4_addPiece_1 fl_RX4_41 h_a0 ?_
  refine e_sipush (v := (400 : Int32)) dX4_addPiece_4 (by decide) ?_
  refine e_icmp_gt 50 dX4_addPiece_7 (by decide) (fun c13 => ?_) (fun c13 => ?_)
  · rw [if_pos c13] at h
    obtain rfl := Option.some.inj h
    exact s_ret rfl rfl dX4_addPiece_50
  · rw [if_neg c13] at h
    refine e_aload_n 0 dX4_addPiece_10 rfl rfl ?_
    refine s_getr dX4_addPiece_11 fl_RX4_9 h_a0 (r_4_1 h_a0).1 ?_
    refine e_aload_n 0 dX4_addPiece_14 rfl rfl ?_
    refine s_geti dX4_addPiece_15 fl_RX4_41 h_a0 ?_
    refine e_iload_n 1 dX4_addPiece_18 rfl rfl ?_
    obtain ⟨q14, h⟩ := gd_some h
    refine s_iast dX4_addPiece_19 (r_4_1 (w := 0) h_a0).2 q14 ?_
    obtain ⟨σ15, q16, h⟩ := lt_some h
    refine s_nms q16 ?_
    refine e_aload_n 0 dX4_addPiece_20 rfl rfl ?_
    refine s_getr dX4_addPiece_21 fl_RX4_15 h_a0 (r_4_2 h_a0).1 ?_
    refine e_aload_n 0 dX4_addPiece_24 rfl rfl ?_
    refine s_geti dX4_addPiece_25 fl_RX4_41 h_a0 ?_
    refine e_iload_n 2 dX4_addPiece_28 rfl rfl ?_
    obtain ⟨q17, h⟩ := gd_some h
    refine s_iast dX4_addPiece_29 (r_4_2 (w := 0) h_a0).2 q17 ?_
    obtain ⟨σ18, q19, h⟩ := lt_some h
    refine s_nms q19 ?_
    refine e_aload_n 0 dX4_addPiece_30 rfl rfl ?_
    refine s_getr dX4_addPiece_31 fl_RX4_18 h_a0 (r_4_3 h_a0).1 ?_
    refine e_aload_n 0 dX4_addPiece_34 rfl rfl ?_
    refine s_geti dX4_addPiece_35 fl_RX4_41 h_a0 ?_
    refine e_iload_n 3 dX4_addPiece_38 rfl rfl ?_
    obtain ⟨q20, h⟩ := gd_some h
    refine s_iast dX4_addPiece_39 (r_4_3 (w := 0) h_a0).2 q20 ?_
    obtain ⟨σ21, q22, h⟩ := lt_some h
    refine s_nms q22 ?_
    refine e_aload_n 0 dX4_addPiece_40 rfl rfl ?_
    refine e_dup dX4_addPiece_41 rfl ?_
    refine s_geti dX4_addPiece_42 fl_RX4_41 h_a0 ?_
    refine e_iconst (v := (1 : Int32)) dX4_addPiece_45 (by decide) ?_
    refine e_iadd dX4_addPiece_46 ?_
    refine s_puti dX4_addPiece_47 fl_RX4_41 h_a0 rfl rfl rfl ?_
    obtain ⟨σ23, q24, h⟩ := lt_some h
    refine s_nms q24 ?_
    obtain rfl := Option.some.inj h
    exact s_ret rfl rfl dX4_addPiece_50
abbrev yy_X4_isDigit : mm_Y := (yX4_isDigit, cX4_isDigit, 2, (some .boolean))
theorem dX4_isDigit_0 : decode cX4_isDigit 0 = .ok (.aload_n 0, 1) := by decide +kernel
theorem dX4_isDigit_1 : decode cX4_isDigit 1 = .ok (.getfield 21, 3) := by decide +kernel
theorem dX4_isDigit_4 : decode cX4_isDigit 4 = .ok (.getfield 83, 3) := by decide +kernel
theorem dX4_isDigit_7 : decode cX4_isDigit 7 = .ok (.iload_n 1, 1) := by decide +kernel
theorem dX4_isDigit_8 : decode cX4_isDigit 8 = .ok (.baload, 1) := by decide +kernel
theorem dX4_isDigit_9 : decode cX4_isDigit 9 = .ok (.bipush 48, 2) := by decide +kernel
theorem dX4_isDigit_11 : decode cX4_isDigit 11 = .ok (.if_icmp .lt 21, 3) := by decide +kernel
theorem dX4_isDigit_14 : decode cX4_isDigit 14 = .ok (.aload_n 0, 1) := by decide +kernel
theorem dX4_isDigit_15 : decode cX4_isDigit 15 = .ok (.getfield 21, 3) := by decide +kernel
theorem dX4_isDigit_18 : decode cX4_isDigit 18 = .ok (.getfield 83, 3) := by decide +kernel
theorem dX4_isDigit_21 : decode cX4_isDigit 21 = .ok (.iload_n 1, 1) := by decide +kernel
theorem dX4_isDigit_22 : decode cX4_isDigit 22 = .ok (.baload, 1) := by decide +kernel
theorem dX4_isDigit_23 : decode cX4_isDigit 23 = .ok (.bipush 57, 2) := by decide +kernel
theorem dX4_isDigit_25 : decode cX4_isDigit 25 = .ok (.if_icmp .gt 7, 3) := by decide +kernel
theorem dX4_isDigit_28 : decode cX4_isDigit 28 = .ok (.iconst 1, 1) := by decide +kernel
theorem dX4_isDigit_29 : decode cX4_isDigit 29 = .ok (.goto 4, 3) := by decide +kernel
theorem dX4_isDigit_32 : decode cX4_isDigit 32 = .ok (.iconst 0, 1) := by decide +kernel
theorem dX4_isDigit_33 : decode cX4_isDigit 33 = .ok (.ireturn, 1) := by decide +kernel
def f_X4_isDigit (a0 : Nat) (i1 : Int32) (σ : mm_S) : Option (Int32 × mm_S) :=
    gd i1 400 <|
    if (σ.1 2 i1.toNatClampNeg) < (48 : Int32) then
      some ((0 : Int32), σ)
    else
      gd i1 400 <|
      if (57 : Int32) < (σ.1 2 i1.toNatClampNeg) then
        some ((0 : Int32), σ)
      else
        some ((1 : Int32), σ)
theorem v_X4_isDigit {g : mm_G} (d : Nat) {a0 : Nat} {i1 : Int32} {σ : mm_S} {res : Int32 × mm_S} (h_a0 : (mm_K a0).1 = 4) (h : f_X4_isDigit a0 i1 σ = some res) : SM g (d + 0) yy_X4_isDigit [.ref a0, .int i1] σ (.int res.1) res.2 := by
  refine s_of (by decide) (Nat.le_of_ble_eq_true rfl) (L := [(0, .ref a0), (1, .int i1)]) rfl ?_
  unfold f_X4_isDigit at h
  refine e_aload_n 0 dX4_isDigit_0 rfl rfl ?_
  refine s_getr dX4_isDigit_1 fl_RX4_21 h_a0 (r_4_0 h_a0).1 ?_
  refine s_getr dX4_isDigit_4 fl_RX4_83 (ka_1 (r_4_0 (w := 0) h_a0).2) (r_6_0 (ka_1 (r_4_0 (w := 0) h_a0).2)).1 ?_
  refine e_iload_n 1 dX4_isDigit_7 rfl rfl ?_
  obtain ⟨q5, h⟩ := gd_some h
  refine s_bald dX4_isDigit_8 (r_6_0 (w := 0) (ka_1 (r_4_0 (w := 0) h_a0).2)).2 q5 ?_
  refine e_bipush (v := (48 : Int32)) dX4_isDigit_9 (by decide) ?_
  refine e_icmp_lt 32 dX4_isDigit_11 (by decide) (fun c6 => ?_) (fun c6 => ?_)
  · rw [if_pos c6] at h
    refine e_iconst (v := (0 : Int32)) dX4_isDigit_32 (by decide) ?_
    obtain rfl := Option.some.inj h
    exact s_ret rfl ⟨_, rfl, nb1 (Or.inl rfl)⟩ dX4_isDigit_33
  · rw [if_neg c6] at h
    refine e_aload_n 0 dX4_isDigit_14 rfl rfl ?_
    refine s_getr dX4_isDigit_15 fl_RX4_21 h_a0 (r_4_0 h_a0).1 ?_
    refine s_getr dX4_isDigit_18 fl_RX4_83 (ka_1 (r_4_0 (w := 0) h_a0).2) (r_6_0 (ka_1 (r_4_0 (w := 0) h_a0).2)).1 ?_
    refine e_iload_n 1 dX4_isDigit_21 rfl rfl ?_
    obtain ⟨q7, h⟩ := gd_some h
    refine s_bald dX4_isDigit_22 (r_6_0 (w := 0) (ka_1 (r_4_0 (w := 0) h_a0).2)).2 q7 ?_
    refine e_bipush (v := (57 : Int32)) dX4_isDigit_23 (by decide) ?_
    refine e_icmp_gt 32 dX4_isDigit_25 (by decide) (fun c8 => ?_) (fun c8 => ?_)
    · rw [if_pos c8] at h
      refine e_iconst (v := (0 : Int32)) dX4_isDigit_32 (by decide) ?_
      obtain rfl := Option.some.inj h
      exact s_ret rfl ⟨_, rfl, nb1 (Or.inl rfl)⟩ dX4_isDigit_33
    · rw [if_neg c8] at h
      refine e_iconst (v := (1 : Int32)) dX4_isDigit_28 (by decide) ?_
      refine e_goto 33 dX4_isDigit_29 (by decide) ?_
      obtain rfl := Option.some.inj h
      exact s_ret rfl ⟨_, rfl, nb1 (Or.inr rfl)⟩ dX4_isDigit_33
abbrev yy_X4_numberEnd : mm_Y := (yX4_numberEnd, cX4_numberEnd, 3, (some .int))
theorem dX4_numberEnd_0 : decode cX4_numberEnd 0 = .ok (.iload_n 1, 1) := by decide +kernel
theorem dX4_numberEnd_1 : decode cX4_numberEnd 1 = .ok (.iconst 1, 1) := by decide +kernel
theorem dX4_numberEnd_2 : decode cX4_numberEnd 2 = .ok (.iadd, 1) := by decide +kernel
theorem dX4_numberEnd_3 : decode cX4_numberEnd 3 = .ok (.istore_n 2, 1) := by decide +kernel
theorem dX4_numberEnd_4 : decode cX4_numberEnd 4 = .ok (.iload_n 2, 1) := by decide +kernel
theorem dX4_numberEnd_5 : decode cX4_numberEnd 5 = .ok (.aload_n 0, 1) := by decide +kernel
theorem dX4_numberEnd_6 : decode cX4_numberEnd 6 = .ok (.getfield 21, 3) := by decide +kernel
theorem dX4_numberEnd_9 : decode cX4_numberEnd 9 = .ok (.getfield 53, 3) := by decide +kernel
theorem dX4_numberEnd_12 : decode cX4_numberEnd 12 = .ok (.if_icmp .ge 17, 3) := by decide +kernel
theorem dX4_numberEnd_15 : decode cX4_numberEnd 15 = .ok (.aload_n 0, 1) := by decide +kernel
theorem dX4_numberEnd_16 : decode cX4_numberEnd 16 = .ok (.iload_n 2, 1) := by decide +kernel
theorem dX4_numberEnd_17 : decode cX4_numberEnd 17 = .ok (.invokevirtual 74, 3) := by decide +kernel
theorem dX4_numberEnd_20 : decode cX4_numberEnd 20 = .ok (.ifCond .eq 9, 3) := by decide +kernel
theorem dX4_numberEnd_23 : decode cX4_numberEnd 23 = .ok (.iinc 2 1, 3) := by decide +kernel
theorem dX4_numberEnd_26 : decode cX4_numberEnd 26 = .ok (.goto (-22), 3) := by decide +kernel
theorem dX4_numberEnd_29 : decode cX4_numberEnd 29 = .ok (.iload_n 2, 1) := by decide +kernel
theorem dX4_numberEnd_30 : decode cX4_numberEnd 30 = .ok (.ireturn, 1) := by decide +kernel
def f_X4_numberEnd_4 (a0 : Nat) (i2 : Int32) (σ : mm_S) : Option (Int32 × mm_S) :=
  lp lpN (fun (k4 : (Int32) → mm_S → Option (Int32 × mm_S)) (v : Int32) (σ : mm_S) =>
    if (σ.1 1 1) ≤ v then
      some (v, σ)
    else
      bd (f_X4_isDigit a0 v σ) fun r4 σ3 =>
      if r4 = 0 then
        some (v, σ3)
      else
        lt (v + Int32.ofInt (1)) fun x6 =>
        k4 x6 σ3) i2 σ
theorem v_X4_numberEnd_4 {g : mm_G} (d : Nat) {a0 : Nat} {i2 : Int32} {σ : mm_S} {res : Int32 × mm_S}  (h_a0 : (mm_K a0).1 = 4) (h : f_X4_numberEnd_4 a0 i2 σ = some res) : SV g (d + 1) yy_X4_numberEnd 4 [(0, .ref a0), (2, .int i2)] [] σ (.int res.1) res.2 := by
  unfold f_X4_numberEnd_4 at h
  refine lp_ind (P := fun v σ => SV g (d + 1) yy_X4_numberEnd 4 [(0, .ref a0), (2, .int v)] [] σ (.int res.1) res.2) (fun k4 H4 v σ h => ?_) _ i2 σ h
  refine e_iload_n 1 dX4_numberEnd_4 rfl rfl ?_
  refine e_aload_n 0 dX4_numberEnd_5 rfl rfl ?_
  refine s_getr dX4_numberEnd_6 fl_RX4_21 h_a0 (r_4_0 h_a0).1 ?_
  refine s_geti dX4_numberEnd_9 fl_RX4_53 (ka_1 (r_4_0 (w := 0) h_a0).2) ?_
  refine e_icmp_ge 29 dX4_numberEnd_12 (by decide) (fun c1 => ?_) (fun c1 => ?_)
  · rw [if_pos c1] at h
    refine e_iload_n 1 dX4_numberEnd_29 rfl rfl ?_
    obtain rfl := Option.some.inj h
    exact s_ret rfl ⟨_, rfl, rfl⟩ dX4_numberEnd_30
  · rw [if_neg c1] at h
    refine e_aload_n 0 dX4_numberEnd_15 rfl rfl ?_
    refine e_iload_n 1 dX4_numberEnd_16 rfl rfl ?_
    obtain ⟨r4, σ3, q2, h⟩ := bd_some h
    refine s_callVi [.int v] dX4_numberEnd_17 ml_RX4_74 h_a0 ⟨_, rfl, by decide⟩ rfl (v_X4_isDigit (d + 0) h_a0 q2) (Nat.le_of_ble_eq_true rfl) ?_
    refine e_if_eq 29 dX4_numberEnd_20 (by decide) (fun c5 => ?_) (fun c5 => ?_)
    · rw [if_pos c5] at h
      refine e_iload_n 1 dX4_numberEnd_29 rfl rfl ?_
      obtain rfl := Option.some.inj h
      exact s_ret rfl ⟨_, rfl, rfl⟩ dX4_numberEnd_30
    · rw [if_neg c5] at h
      obtain ⟨x6, q7, h⟩ := lt_some h
      refine e_iinc (v := x6) (L' := [(0, .ref a0), (2, .int x6)]) 1 dX4_numberEnd_23 rfl q7.symm (by decide) rfl ?_
      refine e_goto 4 dX4_numberEnd_26 (by decide) ?_
      refine s_pick (L' := [(0, .ref a0), (2, .int x6)]) [0, 1] rfl ?_
      exact H4 x6 σ3 h
def f_X4_numberEnd (a0 : Nat) (i1 : Int32) (σ : mm_S) : Option (Int32 × mm_S) :=
    lt ((i1 + (1 : Int32))) fun x10 =>
    f_X4_numberEnd_4 a0 x10 σ
theorem v_X4_numberEnd {g : mm_G} (d : Nat) {a0 : Nat} {i1 : Int32} {σ : mm_S} {res : Int32 × mm_S} (h_a0 : (mm_K a0).1 = 4) (h : f_X4_numberEnd a0 i1 σ = some res) : SM g (d + 1) yy_X4_numberEnd [.ref a0, .int i1] σ (.int res.1) res.2 := by
  refine s_of (by decide) (Nat.le_of_ble_eq_true rfl) (L := [(0, .ref a0), (1, .int i1)]) rfl ?_
  unfold f_X4_numberEnd at h
  refine e_iload_n 1 dX4_numberEnd_0 rfl rfl ?_
  refine e_iconst (v := (1 : Int32)) dX4_numberEnd_1 (by decide) ?_
  refine e_iadd dX4_numberEnd_2 ?_
  obtain ⟨x10, q11, h⟩ := lt_some h
  refine s_nmi q11 ?_
  refine e_istore_n (L' := [(0, .ref a0), (1, .int i1), (2, .int x10)]) dX4_numberEnd_3 rfl (by decide) rfl ?_
  refine s_pick (L' := [(0, .ref a0), (2, .int x10)]) [0, 2] rfl ?_
  exact v_X4_numberEnd_4 d h_a0 h
abbrev yy_X4_numberOf : mm_Y := (yX4_numberOf, cX4_numberOf, 5, (some .int))
theorem dX4_numberOf_0 : decode cX4_numberOf 0 = .ok (.iload_n 2, 1) := by decide +kernel
theorem dX4_numberOf_1 : decode cX4_numberOf 1 = .ok (.iload_n 1, 1) := by decide +kernel
theorem dX4_numberOf_2 : decode cX4_numberOf 2 = .ok (.isub, 1) := by decide +kernel
theorem dX4_numberOf_3 : decode cX4_numberOf 3 = .ok (.iconst 5, 1) := by decide +kernel
theorem dX4_numberOf_4 : decode cX4_numberOf 4 = .ok (.if_icmp .le 5, 3) := by decide +kernel
theorem dX4_numberOf_7 : decode cX4_numberOf 7 = .ok (.iconst (-1), 1) := by decide +kernel
theorem dX4_numberOf_8 : decode cX4_numberOf 8 = .ok (.ireturn, 1) := by decide +kernel
theorem dX4_numberOf_9 : decode cX4_numberOf 9 = .ok (.iconst 0, 1) := by decide +kernel
theorem dX4_numberOf_10 : decode cX4_numberOf 10 = .ok (.istore_n 3, 1) := by decide +kernel
theorem dX4_numberOf_11 : decode cX4_numberOf 11 = .ok (.iload_n 1, 1) := by decide +kernel
theorem dX4_numberOf_12 : decode cX4_numberOf 12 = .ok (.istore 4, 2) := by decide +kernel
theorem dX4_numberOf_14 : decode cX4_numberOf 14 = .ok (.iload 4, 2) := by decide +kernel
theorem dX4_numberOf_16 : decode cX4_numberOf 16 = .ok (.iload_n 2, 1) := by decide +kernel
theorem dX4_numberOf_17 : decode cX4_numberOf 17 = .ok (.if_icmp .ge 28, 3) := by decide +kernel
theorem dX4_numberOf_20 : decode cX4_numberOf 20 = .ok (.iload_n 3, 1) := by decide +kernel
theorem dX4_numberOf_21 : decode cX4_numberOf 21 = .ok (.bipush 10, 2) := by decide +kernel
theorem dX4_numberOf_23 : decode cX4_numberOf 23 = .ok (.imul, 1) := by decide +kernel
theorem dX4_numberOf_24 : decode cX4_numberOf 24 = .ok (.aload_n 0, 1) := by decide +kernel
theorem dX4_numberOf_25 : decode cX4_numberOf 25 = .ok (.getfield 21, 3) := by decide +kernel
theorem dX4_numberOf_28 : decode cX4_numberOf 28 = .ok (.getfield 83, 3) := by decide +kernel
theorem dX4_numberOf_31 : decode cX4_numberOf 31 = .ok (.iload 4, 2) := by decide +kernel
theorem dX4_numberOf_33 : decode cX4_numberOf 33 = .ok (.baload, 1) := by decide +kernel
theorem dX4_numberOf_34 : decode cX4_numberOf 34 = .ok (.iadd, 1) := by decide +kernel
theorem dX4_numberOf_35 : decode cX4_numberOf 35 = .ok (.bipush 48, 2) := by decide +kernel
theorem dX4_numberOf_37 : decode cX4_numberOf 37 = .ok (.isub, 1) := by decide +kernel
theorem dX4_numberOf_38 : decode cX4_numberOf 38 = .ok (.istore_n 3, 1) := by decide +kernel
theorem dX4_numberOf_39 : decode cX4_numberOf 39 = .ok (.iinc 4 1, 3) := by decide +kernel
theorem dX4_numberOf_42 : decode cX4_numberOf 42 = .ok (.goto (-28), 3) := by decide +kernel
theorem dX4_numberOf_45 : decode cX4_numberOf 45 = .ok (.iload_n 3, 1) := by decide +kernel
theorem dX4_numberOf_46 : decode cX4_numberOf 46 = .ok (.ireturn, 1) := by decide +kernel
def f_X4_numberOf_14 (a0 : Nat) (i2 : Int32) (i3 : Int32) (i4 : Int32) (σ : mm_S) : Option (Int32 × mm_S) :=
  lp lpN (fun (k14 : (Int32 × Int32) → mm_S → Option (Int32 × mm_S)) (v : Int32 × Int32) (σ : mm_S) =>
    if i2 ≤ v.2 then
      some (v.1, σ)
    else
      gd v.2 400 <|
      lt ((((v.1 * (10 : Int32)) + (σ.1 2 v.2.toNatClampNeg)) - (48 : Int32))) fun x3 =>
      lt (v.2 + Int32.ofInt (1)) fun x5 =>
      k14 (x3, x5) σ) (i3, i4) σ
theorem v_X4_numberOf_14 {g : mm_G} (d : Nat) {a0 : Nat} {i2 : Int32} {i3 : Int32} {i4 : Int32} {σ : mm_S} {res : Int32 × mm_S}  (h_a0 : (mm_K a0).1 = 4) (h : f_X4_numberOf_14 a0 i2 i3 i4 σ = some res) : SV g (d + 0) yy_X4_numberOf 14 [(0, .ref a0), (2, .int i2), (3, .int i3), (4, .int i4)] [] σ (.int res.1) res.2 := by
  unfold f_X4_numberOf_14 at h
  refine lp_ind (P := fun v σ => SV g (d + 0) yy_X4_numberOf 14 [(0, .ref a0), (2, .int i2), (3, .int v.1), (4, .int v.2)] [] σ (.int res.1) res.2) (fun k14 H14 v σ h => ?_) _ (i3, i4) σ h
  refine e_iload 3 dX4_numberOf_14  rfl ?_
  refine e_iload_n 1 dX4_numberOf_16 rfl rfl ?_
  refine e_icmp_ge 45 dX4_numberOf_17 (by decide) (fun c1 => ?_) (fun c1 => ?_)
  · rw [if_pos c1] at h
    refine e_iload_n 2 dX4_numberOf_45 rfl rfl ?_
    obtain rfl := Option.some.inj h
    exact s_ret rfl ⟨_, rfl, rfl⟩ dX4_numberOf_46
  · rw [if_neg c1] at h
    refine e_iload_n 2 dX4_numberOf_20 rfl rfl ?_
    refine e_bipush (v := (10 : Int32)) dX4_numberOf_21 (by decide) ?_
    refine e_imul dX4_numberOf_23 ?_
    refine e_aload_n 0 dX4_numberOf_24 rfl rfl ?_
    refine s_getr dX4_numberOf_25 fl_RX4_21 h_a0 (r_4_0 h_a0).1 ?_
    refine s_getr dX4_numberOf_28 fl_RX4_83 (ka_1 (r_4_0 (w := 0) h_a0).2) (r_6_0 (ka_1 (r_4_0 (w := 0) h_a0).2)).1 ?_
    refine e_iload 3 dX4_numberOf_31  rfl ?_
    obtain ⟨q2, h⟩ := gd_some h
    refine s_bald dX4_numberOf_33 (r_6_0 (w := 0) (ka_1 (r_4_0 (w := 0) h_a0).2)).2 q2 ?_
    refine e_iadd dX4_numberOf_34 ?_
    refine e_bipush (v := (48 : Int32)) dX4_numberOf_35 (by decide) ?_
    refine e_isub dX4_numberOf_37 ?_
    obtain ⟨x3, q4, h⟩ := lt_some h
    refine s_nmi q4 ?_
    refine e_istore_n (L' := [(0, .ref a0), (2, .int i2), (3, .int x3), (4, .int v.2)]) dX4_numberOf_38 rfl (by decide) rfl ?_
    obtain ⟨x5, q6, h⟩ := lt_some h
    refine e_iinc (v := x5) (L' := [(0, .ref a0), (2, .int i2), (3, .int x3), (4, .int x5)]) 3 dX4_numberOf_39 rfl q6.symm (by decide) rfl ?_
    refine e_goto 14 dX4_numberOf_42 (by decide) ?_
    refine s_pick (L' := [(0, .ref a0), (2, .int i2), (3, .int x3), (4, .int x5)]) [0, 1, 2, 3] rfl ?_
    exact H14 (x3, x5) σ h
def f_X4_numberOf (a0 : Nat) (i1 : Int32) (i2 : Int32) (σ : mm_S) : Option (Int32 × mm_S) :=
    if (i2 - i1) ≤ (5 : Int32) then
      f_X4_numberOf_14 a0 i2 (0 : Int32) i1 σ
    else
      some ((-1 : Int32), σ)
theorem v_X4_numberOf {g : mm_G} (d : Nat) {a0 : Nat} {i1 : Int32} {i2 : Int32} {σ : mm_S} {res : Int32 × mm_S} (h_a0 : (mm_K a0).1 = 4) (h : f_X4_numberOf a0 i1 i2 σ = some res) : SM g (d + 0) yy_X4_numberOf [.ref a0, .int i1, .int i2] σ (.int res.1) res.2 := by
  refine s_of (by decide) (Nat.le_of_ble_eq_true rfl) (L := [(0, .ref a0), (1, .int i1), (2, .int i2)]) rfl ?_
  unfold f_X4_numberOf at h
  refine e_iload_n 2 dX4_numberOf_0 rfl rfl ?_
  refine e_iload_n 1 dX4_numberOf_1 rfl rfl ?_
  refine e_isub dX4_numberOf_2 ?_
  refine e_iconst (v := (5 : Int32)) dX4_numberOf_3 (by decide) ?_
  refine e_icmp_le 9 dX4_numberOf_4 (by decide) (fun c8 => ?_) (fun c8 => ?_)
  · rw [if_pos c8] at h
    refine e_iconst (v := (0 : Int32)) dX4_numberOf_9 (by decide) ?_
    refine e_istore_n (L' := [(0, .ref a0), (1, .int i1), (2, .int i2), (3, .int (0 : Int32))]) dX4_numberOf_10 rfl (by decide) rfl ?_
    refine e_iload_n 1 dX4_numberOf_11 rfl rfl ?_
    refine e_istore (L' := [(0, .ref a0), (1, .int i1), (2, .int i2), (3, .int (0 : Int32)), (4, .int i1)]) dX4_numberOf_12  (by decide) rfl ?_
    refine s_pick (L' := [(0, .ref a0), (2, .int i2), (3, .int (0 : Int32)), (4, .int i1)]) [0, 2, 3, 4] rfl ?_
    exact v_X4_numberOf_14 d h_a0 h
  · rw [if_neg c8] at h
    refine e_iconst (v := (-1 : Int32)) dX4_numberOf_7 (by decide) ?_
    obtain rfl := Option.some.inj h
    exact s_ret rfl ⟨_, rfl, rfl⟩ dX4_numberOf_8
abbrev yy_X4_signEnd : mm_Y := (yX4_signEnd, cX4_signEnd, 3, (some .int))
theorem dX4_signEnd_0 : decode cX4_signEnd 0 = .ok (.aload_n 0, 1) := by decide +kernel
theorem dX4_signEnd_1 : decode cX4_signEnd 1 = .ok (.getfield 21, 3) := by decide +kernel
theorem dX4_signEnd_4 : decode cX4_signEnd 4 = .ok (.getfield 83, 3) := by decide +kernel
theorem dX4_signEnd_7 : decode cX4_signEnd 7 = .ok (.iload_n 1, 1) := by decide +kernel
theorem dX4_signEnd_8 : decode cX4_signEnd 8 = .ok (.baload, 1) := by decide +kernel
theorem dX4_signEnd_9 : decode cX4_signEnd 9 = .ok (.bipush 60, 2) := by decide +kernel
theorem dX4_signEnd_11 : decode cX4_signEnd 11 = .ok (.if_icmp .eq 17, 3) := by decide +kernel
theorem dX4_signEnd_14 : decode cX4_signEnd 14 = .ok (.aload_n 0, 1) := by decide +kernel
theorem dX4_signEnd_15 : decode cX4_signEnd 15 = .ok (.getfield 21, 3) := by decide +kernel
theorem dX4_signEnd_18 : decode cX4_signEnd 18 = .ok (.getfield 83, 3) := by decide +kernel
theorem dX4_signEnd_21 : decode cX4_signEnd 21 = .ok (.iload_n 1, 1) := by decide +kernel
theorem dX4_signEnd_22 : decode cX4_signEnd 22 = .ok (.baload, 1) := by decide +kernel
theorem dX4_signEnd_23 : decode cX4_signEnd 23 = .ok (.bipush 62, 2) := by decide +kernel
theorem dX4_signEnd_25 : decode cX4_signEnd 25 = .ok (.if_icmp .ne 7, 3) := by decide +kernel
theorem dX4_signEnd_28 : decode cX4_signEnd 28 = .ok (.iconst 1, 1) := by decide +kernel
theorem dX4_signEnd_29 : decode cX4_signEnd 29 = .ok (.goto 4, 3) := by decide +kernel
theorem dX4_signEnd_32 : decode cX4_signEnd 32 = .ok (.iconst 0, 1) := by decide +kernel
theorem dX4_signEnd_33 : decode cX4_signEnd 33 = .ok (.istore_n 2, 1) := by decide +kernel
theorem dX4_signEnd_34 : decode cX4_signEnd 34 = .ok (.iload_n 2, 1) := by decide +kernel
theorem dX4_signEnd_35 : decode cX4_signEnd 35 = .ok (.ifCond .eq 38, 3) := by decide +kernel
theorem dX4_signEnd_38 : decode cX4_signEnd 38 = .ok (.iload_n 1, 1) := by decide +kernel
theorem dX4_signEnd_39 : decode cX4_signEnd 39 = .ok (.iconst 1, 1) := by decide +kernel
theorem dX4_signEnd_40 : decode cX4_signEnd 40 = .ok (.iadd, 1) := by decide +kernel
theorem dX4_signEnd_41 : decode cX4_signEnd 41 = .ok (.aload_n 0, 1) := by decide +kernel
theorem dX4_signEnd_42 : decode cX4_signEnd 42 = .ok (.getfield 21, 3) := by decide +kernel
theorem dX4_signEnd_45 : decode cX4_signEnd 45 = .ok (.getfield 53, 3) := by decide +kernel
theorem dX4_signEnd_48 : decode cX4_signEnd 48 = .ok (.if_icmp .ge 25, 3) := by decide +kernel
theorem dX4_signEnd_51 : decode cX4_signEnd 51 = .ok (.aload_n 0, 1) := by decide +kernel
theorem dX4_signEnd_52 : decode cX4_signEnd 52 = .ok (.getfield 21, 3) := by decide +kernel
theorem dX4_signEnd_55 : decode cX4_signEnd 55 = .ok (.getfield 83, 3) := by decide +kernel
theorem dX4_signEnd_58 : decode cX4_signEnd 58 = .ok (.iload_n 1, 1) := by decide +kernel
theorem dX4_signEnd_59 : decode cX4_signEnd 59 = .ok (.iconst 1, 1) := by decide +kernel
theorem dX4_signEnd_60 : decode cX4_signEnd 60 = .ok (.iadd, 1) := by decide +kernel
theorem dX4_signEnd_61 : decode cX4_signEnd 61 = .ok (.baload, 1) := by decide +kernel
theorem dX4_signEnd_62 : decode cX4_signEnd 62 = .ok (.bipush 61, 2) := by decide +kernel
theorem dX4_signEnd_64 : decode cX4_signEnd 64 = .ok (.if_icmp .ne 9, 3) := by decide +kernel
theorem dX4_signEnd_67 : decode cX4_signEnd 67 = .ok (.iload_n 1, 1) := by decide +kernel
theorem dX4_signEnd_68 : decode cX4_signEnd 68 = .ok (.iconst 2, 1) := by decide +kernel
theorem dX4_signEnd_69 : decode cX4_signEnd 69 = .ok (.iadd, 1) := by decide +kernel
theorem dX4_signEnd_70 : decode cX4_signEnd 70 = .ok (.goto 6, 3) := by decide +kernel
theorem dX4_signEnd_73 : decode cX4_signEnd 73 = .ok (.iload_n 1, 1) := by decide +kernel
theorem dX4_signEnd_74 : decode cX4_signEnd 74 = .ok (.iconst 1, 1) := by decide +kernel
theorem dX4_signEnd_75 : decode cX4_signEnd 75 = .ok (.iadd, 1) := by decide +kernel
theorem dX4_signEnd_76 : decode cX4_signEnd 76 = .ok (.ireturn, 1) := by decide +kernel
def f_X4_signEnd_33 (a0 : Nat) (i1 : Int32) (s0 : Int32) (σ : mm_S) : Option (Int32 × mm_S) :=
    if s0 = 0 then
      some ((i1 + (1 : Int32)), σ)
    else
      if (σ.1 1 1) ≤ (i1 + (1 : Int32)) then
        some ((i1 + (1 : Int32)), σ)
      else
        gd (i1 + (1 : Int32)) 400 <|
        if (σ.1 2 (i1 + (1 : Int32)).toNatClampNeg) = (61 : Int32) then
          some ((i1 + (2 : Int32)), σ)
        else
          some ((i1 + (1 : Int32)), σ)
theorem v_X4_signEnd_33 {g : mm_G} (d : Nat) {a0 : Nat} {i1 : Int32} {s0 : Int32} {σ : mm_S} {res : Int32 × mm_S}  (h_a0 : (mm_K a0).1 = 4) (h : f_X4_signEnd_33 a0 i1 s0 σ = some res) : SV g (d + 0) yy_X4_signEnd 33 [(0, .ref a0), (1, .int i1)] [.int s0] σ (.int res.1) res.2 := by
  unfold f_X4_signEnd_33 at h
  refine e_istore_n (L' := [(0, .ref a0), (1, .int i1), (2, .int s0)]) dX4_signEnd_33 rfl (by decide) rfl ?_
  refine e_iload_n 2 dX4_signEnd_34 rfl rfl ?_
  refine e_if_eq 73 dX4_signEnd_35 (by decide) (fun c1 => ?_) (fun c1 => ?_)
  · rw [if_pos c1] at h
    refine e_iload_n 1 dX4_signEnd_73 rfl rfl ?_
    refine e_iconst (v := (1 : Int32)) dX4_signEnd_74 (by decide) ?_
    refine e_iadd dX4_signEnd_75 ?_
    obtain rfl := Option.some.inj h
    exact s_ret rfl ⟨_, rfl, rfl⟩ dX4_signEnd_76
  · rw [if_neg c1] at h
    refine e_iload_n 1 dX4_signEnd_38 rfl rfl ?_
    refine e_iconst (v := (1 : Int32)) dX4_signEnd_39 (by decide) ?_
    refine e_iadd dX4_signEnd_40 ?_
    refine e_aload_n 0 dX4_signEnd_41 rfl rfl ?_
    refine s_getr dX4_signEnd_42 fl_RX4_21 h_a0 (r_4_0 h_a0).1 ?_
    refine s_geti dX4_signEnd_45 fl_RX4_53 (ka_1 (r_4_0 (w := 0) h_a0).2) ?_
    refine e_icmp_ge 73 dX4_signEnd_48 (by decide) (fun c2 => ?_) (fun c2 => ?_)
    · rw [if_pos c2] at h
      refine e_iload_n 1 dX4_signEnd_73 rfl rfl ?_
      refine e_iconst (v := (1 : Int32)) dX4_signEnd_74 (by decide) ?_
      refine e_iadd dX4_signEnd_75 ?_
      obtain rfl := Option.some.inj h
      exact s_ret rfl ⟨_, rfl, rfl⟩ dX4_signEnd_76
    · rw [if_neg c2] at h
      refine e_aload_n 0 dX4_signEnd_51 rfl rfl ?_
      refine s_getr dX4_signEnd_52 fl_RX4_21 h_a0 (r_4_0 h_a0).1 ?_
      refine s_getr dX4_signEnd_55 fl_RX4_83 (ka_1 (r_4_0 (w := 0) h_a0).2) (r_6_0 (ka_1 (r_4_0 (w := 0) h_a0).2)).1 ?_
      refine e_iload_n 1 dX4_signEnd_58 rfl rfl ?_
      refine e_iconst (v := (1 : Int32)) dX4_signEnd_59 (by decide) ?_
      refine e_iadd dX4_signEnd_60 ?_
      obtain ⟨q3, h⟩ := gd_some h
      refine s_bald dX4_signEnd_61 (r_6_0 (w := 0) (ka_1 (r_4_0 (w := 0) h_a0).2)).2 q3 ?_
      refine e_bipush (v := (61 : Int32)) dX4_signEnd_62 (by decide) ?_
      refine e_icmp_ne 73 dX4_signEnd_64 (by decide) (fun c4 => ?_) (fun c4 => ?_)
      · rw [if_neg c4] at h
        refine e_iload_n 1 dX4_signEnd_73 rfl rfl ?_
        refine e_iconst (v := (1 : Int32)) dX4_signEnd_74 (by decide) ?_
        refine e_iadd dX4_signEnd_75 ?_
        obtain rfl := Option.some.inj h
        exact s_ret rfl ⟨_, rfl, rfl⟩ dX4_signEnd_76
      · rw [if_pos c4] at h
        refine e_iload_n 1 dX4_signEnd_67 rfl rfl ?_
        refine e_iconst (v := (2 : Int32)) dX4_signEnd_68 (by decide) ?_
        refine e_iadd dX4_signEnd_69 ?_
        refine e_goto 76 dX4_signEnd_70 (by decide) ?_
        obtain rfl := Option.some.inj h
        exact s_ret rfl ⟨_, rfl, rfl⟩ dX4_signEnd_76
def f_X4_signEnd (a0 : Nat) (i1 : Int32) (σ : mm_S) : Option (Int32 × mm_S) :=
    gd i1 400 <|
    if (σ.1 2 i1.toNatClampNeg) = (60 : Int32) then
      f_X4_signEnd_33 a0 i1 (1 : Int32) σ
    else
      gd i1 400 <|
      if (σ.1 2 i1.toNatClampNeg) = (62 : Int32) then
        f_X4_signEnd_33 a0 i1 (1 : Int32) σ
      else
        f_X4_signEnd_33 a0 i1 (0 : Int32) σ
theorem v_X4_signEnd {g : mm_G} (d : Nat) {a0 : Nat} {i1 : Int32} {σ : mm_S} {res : Int32 × mm_S} (h_a0 : (mm_K a0).1 = 4) (h : f_X4_signEnd a0 i1 σ = some res) : SM g (d + 0) yy_X4_signEnd [.ref a0, .int i1] σ (.int res.1) res.2 := by
  refine s_of (by decide) (Nat.le_of_ble_eq_true rfl) (L := [(0, .ref a0), (1, .int i1)]) rfl ?_
  unfold f_X4_signEnd at h
  refine e_aload_n 0 dX4_signEnd_0 rfl rfl ?_
  refine s_getr dX4_signEnd_1 fl_RX4_21 h_a0 (r_4_0 h_a0).1 ?_
  refine s_getr dX4_signEnd_4 fl_RX4_83 (ka_1 (r_4_0 (w := 0) h_a0).2) (r_6_0 (ka_1 (r_4_0 (w := 0) h_a0).2)).1 ?_
  refine e_iload_n 1 dX4_signEnd_7 rfl rfl ?_
  obtain ⟨q9, h⟩ := gd_some h
  refine s_bald dX4_signEnd_8 (r_6_0 (w := 0) (ka_1 (r_4_0 (w := 0) h_a0).2)).2 q9 ?_
  refine e_bipush (v := (60 : Int32)) dX4_signEnd_9 (by decide) ?_
  refine e_icmp_eq 28 dX4_signEnd_11 (by decide) (fun c10 => ?_) (fun c10 => ?_)
  · rw [if_pos c10] at h
    refine e_iconst (v := (1 : Int32)) dX4_signEnd_28 (by decide) ?_
    refine e_goto 33 dX4_signEnd_29 (by decide) ?_
    refine s_pick (L' := [(0, .ref a0), (1, .int i1)]) [0, 1] rfl ?_
    exact v_X4_signEnd_33 d h_a0 h
  · rw [if_neg c10] at h
    refine e_aload_n 0 dX4_signEnd_14 rfl rfl ?_
    refine s_getr dX4_signEnd_15 fl_RX4_21 h_a0 (r_4_0 h_a0).1 ?_
    refine s_getr dX4_signEnd_18 fl_RX4_83 (ka_1 (r_4_0 (w := 0) h_a0).2) (r_6_0 (ka_1 (r_4_0 (w := 0) h_a0).2)).1 ?_
    refine e_iload_n 1 dX4_signEnd_21 rfl rfl ?_
    obtain ⟨q11, h⟩ := gd_some h
    refine s_bald dX4_signEnd_22 (r_6_0 (w := 0) (ka_1 (r_4_0 (w := 0) h_a0).2)).2 q11 ?_
    refine e_bipush (v := (62 : Int32)) dX4_signEnd_23 (by decide) ?_
    refine e_icmp_ne 32 dX4_signEnd_25 (by decide) (fun c12 => ?_) (fun c12 => ?_)
    · rw [if_neg c12] at h
      refine e_iconst (v := (0 : Int32)) dX4_signEnd_32 (by decide) ?_
      refine s_pick (L' := [(0, .ref a0), (1, .int i1)]) [0, 1] rfl ?_
      exact v_X4_signEnd_33 d h_a0 h
    · rw [if_pos c12] at h
      refine e_iconst (v := (1 : Int32)) dX4_signEnd_28 (by decide) ?_
      refine e_goto 33 dX4_signEnd_29 (by decide) ?_
      refine s_pick (L' := [(0, .ref a0), (1, .int i1)]) [0, 1] rfl ?_
      exact v_X4_signEnd_33 d h_a0 h
