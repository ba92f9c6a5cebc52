abbrev yy_X4_readSum : mm_Y := (yX4_readSum, cX4_readSum, 5, none)
theorem dX4_readSum_0 : decode cX4_readSum 0 = .ok (.iconst (-1), 1) := by decide +kernel
theorem dX4_readSum_1 : decode cX4_readSum 1 = .ok (.istore_n 2, 1) := by decide +kernel
theorem dX4_readSum_2 : decode cX4_readSum 2 = .ok (.iconst (-1), 1) := by decide +kernel
theorem dX4_readSum_3 : decode cX4_readSum 3 = .ok (.istore_n 3, 1) := by decide +kernel
theorem dX4_readSum_4 : decode cX4_readSum 4 = .ok (.iconst 0, 1) := by decide +kernel
theorem dX4_readSum_5 : decode cX4_readSum 5 = .ok (.istore 4, 2) := by decide +kernel
theorem dX4_readSum_7 : decode cX4_readSum 7 = .ok (.iload 4, 2) := by decide +kernel
theorem dX4_readSum_9 : decode cX4_readSum 9 = .ok (.sipush 400, 3) := by decide +kernel
theorem dX4_readSum_12 : decode cX4_readSum 12 = .ok (.if_icmp .ge 105, 3) := by decide +kernel
theorem dX4_readSum_15 : decode cX4_readSum 15 = .ok (.aload_n 0, 1) := by decide +kernel
theorem dX4_readSum_16 : decode cX4_readSum 16 = .ok (.getfield 28, 3) := by decide +kernel
theorem dX4_readSum_19 : decode cX4_readSum 19 = .ok (.ifCond .ne 98, 3) := by decide +kernel
theorem dX4_readSum_22 : decode cX4_readSum 22 = .ok (.aload_n 0, 1) := by decide +kernel
theorem dX4_readSum_23 : decode cX4_readSum 23 = .ok (.aload_n 1, 1) := by decide +kernel
theorem dX4_readSum_24 : decode cX4_readSum 24 = .ok (.invokevirtual 173, 3) := by decide +kernel
theorem dX4_readSum_27 : decode cX4_readSum 27 = .ok (.iload_n 3, 1) := by decide +kernel
theorem dX4_readSum_28 : decode cX4_readSum 28 = .ok (.iconst (-1), 1) := by decide +kernel
theorem dX4_readSum_29 : decode cX4_readSum 29 = .ok (.if_icmp .eq 10, 3) := by decide +kernel
theorem dX4_readSum_32 : decode cX4_readSum 32 = .ok (.aload_n 1, 1) := by decide +kernel
theorem dX4_readSum_33 : decode cX4_readSum 33 = .ok (.iload_n 3, 1) := by decide +kernel
theorem dX4_readSum_34 : decode cX4_readSum 34 = .ok (.invokevirtual 164, 3) := by decide +kernel
theorem dX4_readSum_37 : decode cX4_readSum 37 = .ok (.iconst (-1), 1) := by decide +kernel
theorem dX4_readSum_38 : decode cX4_readSum 38 = .ok (.istore_n 3, 1) := by decide +kernel
theorem dX4_readSum_39 : decode cX4_readSum 39 = .ok (.aload_n 0, 1) := by decide +kernel
theorem dX4_readSum_40 : decode cX4_readSum 40 = .ok (.getfield 44, 3) := by decide +kernel
theorem dX4_readSum_43 : decode cX4_readSum 43 = .ok (.iconst 3, 1) := by decide +kernel
theorem dX4_readSum_44 : decode cX4_readSum 44 = .ok (.if_icmp .ne 29, 3) := by decide +kernel
theorem dX4_readSum_47 : decode cX4_readSum 47 = .ok (.aload_n 0, 1) := by decide +kernel
theorem dX4_readSum_48 : decode cX4_readSum 48 = .ok (.getfield 47, 3) := by decide +kernel
theorem dX4_readSum_51 : decode cX4_readSum 51 = .ok (.bipush 22, 2) := by decide +kernel
theorem dX4_readSum_53 : decode cX4_readSum 53 = .ok (.if_icmp .lt 20, 3) := by decide +kernel
theorem dX4_readSum_56 : decode cX4_readSum 56 = .ok (.aload_n 0, 1) := by decide +kernel
theorem dX4_readSum_57 : decode cX4_readSum 57 = .ok (.getfield 47, 3) := by decide +kernel
theorem dX4_readSum_60 : decode cX4_readSum 60 = .ok (.bipush 24, 2) := by decide +kernel
theorem dX4_readSum_62 : decode cX4_readSum 62 = .ok (.if_icmp .gt 11, 3) := by decide +kernel
theorem dX4_readSum_65 : decode cX4_readSum 65 = .ok (.aload_n 0, 1) := by decide +kernel
theorem dX4_readSum_66 : decode cX4_readSum 66 = .ok (.getfield 47, 3) := by decide +kernel
theorem dX4_readSum_69 : decode cX4_readSum 69 = .ok (.istore_n 3, 1) := by decide +kernel
theorem dX4_readSum_70 : decode cX4_readSum 70 = .ok (.goto 37, 3) := by decide +kernel
theorem dX4_readSum_73 : decode cX4_readSum 73 = .ok (.iload_n 2, 1) := by decide +kernel
theorem dX4_readSum_74 : decode cX4_readSum 74 = .ok (.iconst (-1), 1) := by decide +kernel
theorem dX4_readSum_75 : decode cX4_readSum 75 = .ok (.if_icmp .eq 8, 3) := by decide +kernel
theorem dX4_readSum_78 : decode cX4_readSum 78 = .ok (.aload_n 1, 1) := by decide +kernel
theorem dX4_readSum_79 : decode cX4_readSum 79 = .ok (.iload_n 2, 1) := by decide +kernel
theorem dX4_readSum_80 : decode cX4_readSum 80 = .ok (.invokevirtual 164, 3) := by decide +kernel
theorem dX4_readSum_83 : decode cX4_readSum 83 = .ok (.aload_n 0, 1) := by decide +kernel
theorem dX4_readSum_84 : decode cX4_readSum 84 = .ok (.bipush 20, 2) := by decide +kernel
theorem dX4_readSum_86 : decode cX4_readSum 86 = .ok (.invokevirtual 120, 3) := by decide +kernel
theorem dX4_readSum_89 : decode cX4_readSum 89 = .ok (.ifCond .ne 13, 3) := by decide +kernel
theorem dX4_readSum_92 : decode cX4_readSum 92 = .ok (.aload_n 0, 1) := by decide +kernel
theorem dX4_readSum_93 : decode cX4_readSum 93 = .ok (.bipush 21, 2) := by decide +kernel
theorem dX4_readSum_95 : decode cX4_readSum 95 = .ok (.invokevirtual 120, 3) := by decide +kernel
theorem dX4_readSum_98 : decode cX4_readSum 98 = .ok (.ifCond .ne 4, 3) := by decide +kernel
theorem dX4_readSum_101 : decode cX4_readSum 101 = .ok (.return_, 1) := by decide +kernel
theorem dX4_readSum_102 : decode cX4_readSum 102 = .ok (.aload_n 0, 1) := by decide +kernel
theorem dX4_readSum_103 : decode cX4_readSum 103 = .ok (.getfield 47, 3) := by decide +kernel
theorem dX4_readSum_106 : decode cX4_readSum 106 = .ok (.istore_n 2, 1) := by decide +kernel
theorem dX4_readSum_107 : decode cX4_readSum 107 = .ok (.aload_n 0, 1) := by decide +kernel
theorem dX4_readSum_108 : decode cX4_readSum 108 = .ok (.invokevirtual 38, 3) := by decide +kernel
theorem dX4_readSum_111 : decode cX4_readSum 111 = .ok (.iinc 4 1, 3) := by decide +kernel
theorem dX4_readSum_114 : decode cX4_readSum 114 = .ok (.goto (-107), 3) := by decide +kernel
theorem dX4_readSum_117 : decode cX4_readSum 117 = .ok (.return_, 1) := by decide +kernel
def f_X4_readSum_102 (k7 : (Int32 × Int32 × Int32) → mm_S → Option (mm_S)) (a0 : Nat) (a1 : Nat) (i3 : Int32) (i4 : Int32) (σ : mm_S) : Option (mm_S) :=
    lt ((σ.1 a0 7)) fun x1 =>
    bv (f_X4_step a0 σ) fun σ4 =>
    lt (i4 + Int32.ofInt (1)) fun x5 =>
    k7 (x1, i3, x5) σ4
theorem v_X4_readSum_102 {g : mm_G} (d : Nat) {k7 : (Int32 × Int32 × Int32) → mm_S → Option (mm_S)} {a0 : Nat} {a1 : Nat} {i3 : Int32} {i4 : Int32} {σ : mm_S} {res : mm_S} (H7 : ∀ v σ, k7 v σ = some res → SV g (d + 3) yy_X4_readSum 7 [(0, .ref a0), (1, .ref a1), (2, .int v.1), (3, .int v.2.1), (4, .int v.2.2)] [] σ .null res) (h_a0 : (mm_K a0).1 = 4) (h_a1 : (mm_K a1).1 = 5) (h : f_X4_readSum_102 k7 a0 a1 i3 i4 σ = some res) : SV g (d + 3) yy_X4_readSum 102 [(0, .ref a0), (1, .ref a1), (3, .int i3), (4, .int i4)] [] σ .null res := by
  unfold f_X4_readSum_102 at h
  refine e_aload_n 0 dX4_readSum_102 rfl rfl ?_
  refine s_geti dX4_readSum_103 fl_RX4_47 h_a0 ?_
  obtain ⟨x1, q2, h⟩ := lt_some h
  refine s_nmi q2 ?_
  refine e_istore_n (L' := [(0, .ref a0), (1, .ref a1), (2, .int x1), (3, .int i3), (4, .int i4)]) dX4_readSum_106 rfl (by decide) rfl ?_
  refine e_aload_n 0 dX4_readSum_107 rfl rfl ?_
  obtain ⟨σ4, q3, h⟩ := bv_some h
  refine s_callVv [] dX4_readSum_108 ml_RX4_38 h_a0 rfl rfl (v_X4_step (d + 2) h_a0 q3) (Nat.le_of_ble_eq_true rfl) ?_
  obtain ⟨x5, q6, h⟩ := lt_some h
  refine e_iinc (v := x5) (L' := [(0, .ref a0), (1, .ref a1), (2, .int x1), (3, .int i3), (4, .int x5)]) 4 dX4_readSum_111 rfl q6.symm (by decide) rfl ?_
  refine e_goto 7 dX4_readSum_114 (by decide) ?_
  refine s_pick (L' := [(0, .ref a0), (1, .ref a1), (2, .int x1), (3, .int i3), (4, .int x5)]) [0, 1, 2, 3, 4] rfl ?_
  exact H7 (x1, i3, x5) σ4 h
def f_X4_readSum_83 (k7 : (Int32 × Int32 × Int32) → mm_S → Option (mm_S)) (a0 : Nat) (a1 : Nat) (i3 : Int32) (i4 : Int32) (σ : mm_S) : Option (mm_S) :=
    bd (f_X4_isSign a0 (20 : Int32) σ) fun r9 σ8 =>
    if r9 = 0 then
      bd (f_X4_isSign a0 (21 : Int32) σ8) fun r13 σ12 =>
      if r13 = 0 then
        some σ12
      else
        f_X4_readSum_102 k7 a0 a1 i3 i4 σ12
    else
      f_X4_readSum_102 k7 a0 a1 i3 i4 σ8
theorem v_X4_readSum_83 {g : mm_G} (d : Nat) {k7 : (Int32 × Int32 × Int32) → mm_S → Option (mm_S)} {a0 : Nat} {a1 : Nat} {i3 : Int32} {i4 : Int32} {σ : mm_S} {res : mm_S} (H7 : ∀ v σ, k7 v σ = some res → SV g (d + 3) yy_X4_readSum 7 [(0, .ref a0), (1, .ref a1), (2, .int v.1), (3, .int v.2.1), (4, .int v.2.2)] [] σ .null res) (h_a0 : (mm_K a0).1 = 4) (h_a1 : (mm_K a1).1 = 5) (h : f_X4_readSum_83 k7 a0 a1 i3 i4 σ = some res) : SV g (d + 3) yy_X4_readSum 83 [(0, .ref a0), (1, .ref a1), (3, .int i3), (4, .int i4)] [] σ .null res := by
  unfold f_X4_readSum_83 at h
  refine e_aload_n 0 dX4_readSum_83 rfl rfl ?_
  refine e_bipush (v := (20 : Int32)) dX4_readSum_84 (by decide) ?_
  obtain ⟨r9, σ8, q7, h⟩ := bd_some h
  refine s_callVi [.int (20 : Int32)] dX4_readSum_86 ml_RX4_120 h_a0 ⟨_, rfl, by decide⟩ rfl (v_X4_isSign (d + 2) h_a0 q7) (Nat.le_of_ble_eq_true rfl) ?_
  refine e_if_ne 102 dX4_readSum_89 (by decide) (fun c10 => ?_) (fun c10 => ?_)
  · rw [if_neg c10] at h
    refine s_pick (L' := [(0, .ref a0), (1, .ref a1), (3, .int i3), (4, .int i4)]) [0, 1, 2, 3] rfl ?_
    exact v_X4_readSum_102 d H7 h_a0 h_a1 h
  · rw [if_pos c10] at h
    refine e_aload_n 0 dX4_readSum_92 rfl rfl ?_
    refine e_bipush (v := (21 : Int32)) dX4_readSum_93 (by decide) ?_
    obtain ⟨r13, σ12, q11, h⟩ := bd_some h
    refine s_callVi [.int (21 : Int32)] dX4_readSum_95 ml_RX4_120 h_a0 ⟨_, rfl, by decide⟩ rfl (v_X4_isSign (d + 2) h_a0 q11) (Nat.le_of_ble_eq_true rfl) ?_
    refine e_if_ne 102 dX4_readSum_98 (by decide) (fun c14 => ?_) (fun c14 => ?_)
    · rw [if_neg c14] at h
      refine s_pick (L' := [(0, .ref a0), (1, .ref a1), (3, .int i3), (4, .int i4)]) [0, 1, 2, 3] rfl ?_
      exact v_X4_readSum_102 d H7 h_a0 h_a1 h
    · rw [if_pos c14] at h
      obtain rfl := Option.some.inj h
      exact s_ret rfl rfl dX4_readSum_101
def f_X4_readSum_73 (k7 : (Int32 × Int32 × Int32) → mm_S → Option (mm_S)) (a0 : Nat) (a1 : Nat) (i2 : Int32) (i3 : Int32) (i4 : Int32) (σ : mm_S) : Option (mm_S) :=
    if i2 = (-1 : Int32) then
      f_X4_readSum_83 k7 a0 a1 i3 i4 σ
    else
      bv (f_X5_add a1 i2 σ) fun σ17 =>
      f_X4_readSum_83 k7 a0 a1 i3 i4 σ17
theorem v_X4_readSum_73 {g : mm_G} (d : Nat) {k7 : (Int32 × Int32 × Int32) → mm_S → Option (mm_S)} {a0 : Nat} {a1 : Nat} {i2 : Int32} {i3 : Int32} {i4 : Int32} {σ : mm_S} {res : mm_S} (H7 : ∀ v σ, k7 v σ = some res → SV g (d + 3) yy_X4_readSum 7 [(0, .ref a0), (1, .ref a1), (2, .int v.1), (3, .int v.2.1), (4, .int v.2.2)] [] σ .null res) (h_a0 : (mm_K a0).1 = 4) (h_a1 : (mm_K a1).1 = 5) (h : f_X4_readSum_73 k7 a0 a1 i2 i3 i4 σ = some res) : SV g (d + 3) yy_X4_readSum 73 [(0, .ref a0), (1, .ref a1), (2, .int i2), (3, .int i3), (4, .int i4)] [] σ .null res := by
  unfold f_X4_readSum_73 at h
  refine e_iload_n 2 dX4_readSum_73 rfl rfl ?_
  refine e_iconst (v := (-1 : Int32)) dX4_readSum_74 (by decide) ?_
  refine e_icmp_eq 83 dX4_readSum_75 (by decide) (fun c15 => ?_) (fun c15 => ?_)
  · rw [if_pos c15] at h
    refine s_pick (L' := [(0, .ref a0), (1, .ref a1), (3, .int i3), (4, .int i4)]) [0, 1, 3, 4] rfl ?_
    exact v_X4_readSum_83 d H7 h_a0 h_a1 h
  · rw [if_neg c15] at h
    refine e_aload_n 1 dX4_readSum_78 rfl rfl ?_
    refine e_iload_n 2 dX4_readSum_79 rfl rfl ?_
    obtain ⟨σ17, q16, h⟩ := bv_some h
    refine s_callVv [.int i2] dX4_readSum_80 ml_RX4_164 h_a1 rfl rfl (v_X5_add (d + 2) h_a1 q16) (Nat.le_of_ble_eq_true rfl) ?_
    refine s_pick (L' := [(0, .ref a0), (1, .ref a1), (3, .int i3), (4, .int i4)]) [0, 1, 3, 4] rfl ?_
    exact v_X4_readSum_83 d H7 h_a0 h_a1 h
def f_X4_readSum_39 (k7 : (Int32 × Int32 × Int32) → mm_S → Option (mm_S)) (a0 : Nat) (a1 : Nat) (i2 : Int32) (i3 : Int32) (i4 : Int32) (σ : mm_S) : Option (mm_S) :=
    if (σ.1 a0 6) = (3 : Int32) then
      if (σ.1 a0 7) < (22 : Int32) then
        f_X4_readSum_73 k7 a0 a1 i2 i3 i4 σ
      else
        if (24 : Int32) < (σ.1 a0 7) then
          f_X4_readSum_73 k7 a0 a1 i2 i3 i4 σ
        else
          lt ((σ.1 a0 7)) fun x21 =>
          bv (f_X4_step a0 σ) fun σ24 =>
          lt (i4 + Int32.ofInt (1)) fun x25 =>
          k7 (i2, x21, x25) σ24
    else
      f_X4_readSum_73 k7 a0 a1 i2 i3 i4 σ
theorem v_X4_readSum_39 {g : mm_G} (d : Nat) {k7 : (Int32 × Int32 × Int32) → mm_S → Option (mm_S)} {a0 : Nat} {a1 : Nat} {i2 : Int32} {i3 : Int32} {i4 : Int32} {σ : mm_S} {res : mm_S} (H7 : ∀ v σ, k7 v σ = some res → SV g (d + 3) yy_X4_readSum 7 [(0, .ref a0), (1, .ref a1), (2, .int v.1), (3, .int v.2.1), (4, .int v.2.2)] [] σ .null res) (h_a0 : (mm_K a0).1 = 4) (h_a1 : (mm_K a1).1 = 5) (h : f_X4_readSum_39 k7 a0 a1 i2 i3 i4 σ = some res) : SV g (d + 3) yy_X4_readSum 39 [(0, .ref a0), (1, .ref a1), (2, .int i2), (3, .int i3), (4, .int i4)] [] σ .null res := by
  unfold f_X4_readSum_39 at h
  refine e_aload_n 0 dX4_readSum_39 rfl rfl ?_
  refine s_geti dX4_readSum_40 fl_RX4_44 h_a0 ?_
  refine e_iconst (v := (3 : Int32)) dX4_readSum_43 (by decide) ?_
  refine e_icmp_ne 73 dX4_readSum_44 (by decide) (fun c18 => ?_) (fun c18 => ?_)
  · rw [if_neg c18] at h
    refine s_pick (L' := [(0, .ref a0), (1, .ref a1), (2, .int i2), (3, .int i3), (4, .int i4)]) [0, 1, 2, 3, 4] rfl ?_
    exact v_X4_readSum_73 d H7 h_a0 h_a1 h
  · rw [if_pos c18] at h
    refine e_aload_n 0 dX4_readSum_47 rfl rfl ?_
    refine s_geti dX4_readSum_48 fl_RX4_47 h_a0 ?_
    refine e_bipush (v := (22 : Int32)) dX4_readSum_51 (by decide) ?_
    refine e_icmp_lt 73 dX4_readSum_53 (by decide) (fun c19 => ?_) (fun c19 => ?_)
    · rw [if_pos c19] at h
      refine s_pick (L' := [(0, .ref a0), (1, .ref a1), (2, .int i2), (3, .int i3), (4, .int i4)]) [0, 1, 2, 3, 4] rfl ?_
      exact v_X4_readSum_73 d H7 h_a0 h_a1 h
    · rw [if_neg c19] at h
      refine e_aload_n 0 dX4_readSum_56 rfl rfl ?_
      refine s_geti dX4_readSum_57 fl_RX4_47 h_a0 ?_
      refine e_bipush (v := (24 : Int32)) dX4_readSum_60 (by decide) ?_
      refine e_icmp_gt 73 dX4_readSum_62 (by decide) (fun c20 => ?_) (fun c20 => ?_)
      · rw [if_pos c20] at h
        refine s_pick (L' := [(0, .ref a0), (1, .ref a1), (2, .int i2), (3, .int i3), (4, .int i4)]) [0, 1, 2, 3, 4] rfl ?_
        exact v_X4_readSum_73 d H7 h_a0 h_a1 h
      · rw [if_neg c20] at h
        refine e_aload_n 0 dX4_readSum_65 rfl rfl ?_
        refine s_geti dX4_readSum_66 fl_RX4_47 h_a0 ?_
        obtain ⟨x21, q22, h⟩ := lt_some h
        refine s_nmi q22 ?_
        refine e_istore_n (L' := [(0, .ref a0), (1, .ref a1), (2, .int i2), (3, .int x21), (4, .int i4)]) dX4_readSum_69 rfl (by decide) rfl ?_
        refine e_goto 107 dX4_readSum_70 (by decide) ?_
        refine e_aload_n 0 dX4_readSum_107 rfl rfl ?_
        obtain ⟨σ24, q23, h⟩ := bv_some h
        refine s_callVv [] dX4_readSum_108 ml_RX4_38 h_a0 rfl rfl (v_X4_step (d + 2) h_a0 q23) (Nat.le_of_ble_eq_true rfl) ?_
        obtain ⟨x25, q26, h⟩ := lt_some h
        refine e_iinc (v := x25) (L' := [(0, .ref a0), (1, .ref a1), (2, .int i2), (3, .int x21), (4, .int x25)]) 4 dX4_readSum_111 rfl q26.symm (by decide) rfl ?_
        refine e_goto 7 dX4_readSum_114 (by decide) ?_
        refine s_pick (L' := [(0, .ref a0), (1, .ref a1), (2, .int i2), (3, .int x21), (4, .int x25)]) [0, 1, 2, 3, 4] rfl ?_
        exact H7 (i2, x21, x25) σ24 h
def f_X4_readSum_7 (a0 : Nat) (a1 : Nat) (i2 : Int32) (i3 : Int32) (i4 : Int32) (σ : mm_S) : Option (mm_S) :=
  lp lpN (fun (k7 : (Int32 × Int32 × Int32) → mm_S → Option (mm_S)) (v : Int32 × Int32 × Int32) (σ : mm_S) =>
    if (400 : Int32) ≤ v.2.2 then
      some σ
    else
      if (σ.1 a0 9) = 0 then
        bv (f_X4_readValue a0 a1 σ) fun σ30 =>
        if v.2.1 = (-1 : Int32) then
          f_X4_readSum_39 k7 a0 a1 v.1 v.2.1 v.2.2 σ30
        else
          bv (f_X5_add a1 v.2.1 σ30) fun σ33 =>
          f_X4_readSum_39 k7 a0 a1 v.1 (-1 : Int32) v.2.2 σ33
      else
        some σ) (i2, i3, i4) σ
theorem v_X4_readSum_7 {g : mm_G} (d : Nat) {a0 : Nat} {a1 : Nat} {i2 : Int32} {i3 : Int32} {i4 : Int32} {σ : mm_S} {res : mm_S}  (h_a0 : (mm_K a0).1 = 4) (h_a1 : (mm_K a1).1 = 5) (h : f_X4_readSum_7 a0 a1 i2 i3 i4 σ = some res) : SV g (d + 3) yy_X4_readSum 7 [(0, .ref a0), (1, .ref a1), (2, .int i2), (3, .int i3), (4, .int i4)] [] σ .null res := by
  unfold f_X4_readSum_7 at h
  refine lp_ind (P := fun v σ => SV g (d + 3) yy_X4_readSum 7 [(0, .ref a0), (1, .ref a1), (2, .int v.1), (3, .int v.2.1), (4, .int v.2.2)] [] σ .null res) (fun k7 H7 v σ h => ?_) _ (i2, i3, i4) σ h
  refine e_iload 4 dX4_readSum_7  rfl ?_
  refine e_sipush (v := (400 : Int32)) dX4_readSum_9 (by decide) ?_
  refine e_icmp_ge 117 dX4_readSum_12 (by decide) (fun c27 => ?_) (fun c27 => ?_)
  · rw [if_pos c27] at h
    obtain rfl := Option.some.inj h
    exact s_ret rfl rfl dX4_readSum_117
  · rw [if_neg c27] at h
    refine e_aload_n 0 dX4_readSum_15 rfl rfl ?_
    refine s_geti dX4_readSum_16 fl_RX4_28 h_a0 ?_
    refine e_if_ne 117 dX4_readSum_19 (by decide) (fun c28 => ?_) (fun c28 => ?_)
    · rw [if_neg c28] at h
      obtain rfl := Option.some.inj h
      exact s_ret rfl rfl dX4_readSum_117
    · rw [if_pos c28] at h
      refine e_aload_n 0 dX4_readSum_22 rfl rfl ?_
      refine e_aload_n 1 dX4_readSum_23 rfl rfl ?_
      obtain ⟨σ30, q29, h⟩ := bv_some h
      refine s_callVv [.ref a1] dX4_readSum_24 ml_RX4_173 h_a0 rfl rfl (v_X4_readValue (d + 0) h_a0 h_a1 q29) (Nat.le_of_ble_eq_true rfl) ?_
      refine e_iload_n 3 dX4_readSum_27 rfl rfl ?_
      refine e_iconst (v := (-1 : Int32)) dX4_readSum_28 (by decide) ?_
      refine e_icmp_eq 39 dX4_readSum_29 (by decide) (fun c31 => ?_) (fun c31 => ?_)
      · rw [if_pos c31] at h
        refine s_pick (L' := [(0, .ref a0), (1, .ref a1), (2, .int v.1), (3, .int v.2.1), (4, .int v.2.2)]) [0, 1, 2, 3, 4] rfl ?_
        exact v_X4_readSum_39 d H7 h_a0 h_a1 h
      · rw [if_neg c31] at h
        refine e_aload_n 1 dX4_readSum_32 rfl rfl ?_
        refine e_iload_n 3 dX4_readSum_33 rfl rfl ?_
        obtain ⟨σ33, q32, h⟩ := bv_some h
        refine s_callVv [.int v.2.1] dX4_readSum_34 ml_RX4_164 h_a1 rfl rfl (v_X5_add (d + 2) h_a1 q32) (Nat.le_of_ble_eq_true rfl) ?_
        refine e_iconst (v := (-1 : Int32)) dX4_readSum_37 (by decide) ?_
        refine e_istore_n (L' := [(0, .ref a0), (1, .ref a1), (2, .int v.1), (3, .int (-1 : Int32)), (4, .int v.2.2)]) dX4_readSum_38 rfl (by decide) rfl ?_
        refine s_pick (L' := [(0, .ref a0), (1, .ref a1), (2, .int v.1), (3, .int (-1 : Int32)), (4, .int v.2.2)]) [0, 1, 2, 3, 4] rfl ?_
        exact v_X4_readSum_39 d H7 h_a0 h_a1 h
def f_X4_readSum (a0 : Nat) (a1 : Nat) (σ : mm_S) : Option (mm_S) :=
    f_X4_readSum_7 a0 a1 (-1 : Int32) (-1 : Int32) (0 : Int32) σ
theorem v_X4_readSum {g : mm_G} (d : Nat) {a0 : Nat} {a1 : Nat} {σ : mm_S} {res : mm_S} (h_a0 : (mm_K a0).1 = 4) (h_a1 : (mm_K a1).1 = 5) (h : f_X4_readSum a0 a1 σ = some res) : SM g (d + 3) yy_X4_readSum [.ref a0, .ref a1] σ .null res := by
  refine s_of (by decide) (Nat.le_of_ble_eq_true rfl) (L := [(0, .ref a0), (1, .ref a1)]) rfl ?_
  unfold f_X4_readSum at h
  refine e_iconst (v := (-1 : Int32)) dX4_readSum_0 (by decide) ?_
  refine e_istore_n (L' := [(0, .ref a0), (1, .ref a1), (2, .int (-1 : Int32))]) dX4_readSum_1 rfl (by decide) rfl ?_
  refine e_iconst (v := (-1 : Int32)) dX4_readSum_2 (by decide) ?_
  refine e_istore_n (L' := [(0, .ref a0), (1, .ref a1), (2, .int (-1 : Int32)), (3, .int (-1 : Int32))]) dX4_readSum_3 rfl (by decide) rfl ?_
  refine e_iconst (v := (0 : Int32)) dX4_readSum_4 (by decide) ?_
  refine e_istore (L' := [(0, .ref a0), (1, .ref a1), (2, .int (-1 : Int32)), (3, .int (-1 : Int32)), (4, .int (0 : Int32))]) dX4_readSum_5  (by decide) rfl ?_
  refine s_pick (L' := [(0, .ref a0), (1, .ref a1), (2, .int (-1 : Int32)), (3, .int (-1 : Int32)), (4, .int (0 : Int32))]) [0, 1, 2, 3, 4] rfl ?_
  exact v_X4_readSum_7 d h_a0 h_a1 h
theorem dX4_readFact_0 : decode cX4_readFact 0 = .ok (.aload_n 0, 1) := by decide +kernel
theorem dX4_readFact_1 : decode cX4_readFact 1 = .ok (.bipush 19, 2) := by decide +kernel
theorem dX4_readFact_3 : decode cX4_readFact 3 = .ok (.invokevirtual 127, 3) := by decide +kernel
theorem dX4_readFact_6 : decode cX4_readFact 6 = .ok (.istore_n 3, 1) := by decide +kernel
theorem dX4_readFact_7 : decode cX4_readFact 7 = .ok (.aload_n 0, 1) := by decide +kernel
theorem dX4_readFact_8 : decode cX4_readFact 8 = .ok (.bipush 35, 2) := by decide +kernel
theorem dX4_readFact_10 : decode cX4_readFact 10 = .ok (.invokevirtual 120, 3) := by decide +kernel
theorem dX4_readFact_13 : decode cX4_readFact 13 = .ok (.istore 4, 2) := by decide +kernel
theorem dX4_readFact_15 : decode cX4_readFact 15 = .ok (.iload_n 3, 1) := by decide +kernel
theorem dX4_readFact_16 : decode cX4_readFact 16 = .ok (.ifCond .ne 8, 3) := by decide +kernel
theorem dX4_readFact_19 : decode cX4_readFact 19 = .ok (.iload 4, 2) := by decide +kernel
theorem dX4_readFact_21 : decode cX4_readFact 21 = .ok (.ifCond .eq 17, 3) := by decide +kernel
theorem dX4_readFact_24 : decode cX4_readFact 24 = .ok (.iload_n 2, 1) := by decide +kernel
theorem dX4_readFact_25 : decode cX4_readFact 25 = .ok (.bipush 10, 2) := by decide +kernel
theorem dX4_readFact_27 : decode cX4_readFact 27 = .ok (.if_icmp .lt 11, 3) := by decide +kernel
theorem dX4_readFact_30 : decode cX4_readFact 30 = .ok (.aload_n 0, 1) := by decide +kernel
theorem dX4_readFact_31 : decode cX4_readFact 31 = .ok (.iconst 2, 1) := by decide +kernel
theorem dX4_readFact_32 : decode cX4_readFact 32 = .ok (.invokevirtual 123, 3) := by decide +kernel
theorem dX4_readFact_35 : decode cX4_readFact 35 = .ok (.goto 123, 3) := by decide +kernel
theorem dX4_readFact_38 : decode cX4_readFact 38 = .ok (.iload_n 3, 1) := by decide +kernel
theorem dX4_readFact_39 : decode cX4_readFact 39 = .ok (.ifCond .eq 24, 3) := by decide +kernel
theorem dX4_readFact_42 : decode cX4_readFact 42 = .ok (.aload_n 0, 1) := by decide +kernel
theorem dX4_readFact_43 : decode cX4_readFact 43 = .ok (.invokevirtual 38, 3) := by decide +kernel
theorem dX4_readFact_46 : decode cX4_readFact 46 = .ok (.aload_n 0, 1) := by decide +kernel
theorem dX4_readFact_47 : decode cX4_readFact 47 = .ok (.aload_n 1, 1) := by decide +kernel
theorem dX4_readFact_48 : decode cX4_readFact 48 = .ok (.iload_n 2, 1) := by decide +kernel
theorem dX4_readFact_49 : decode cX4_readFact 49 = .ok (.iconst 1, 1) := by decide +kernel
theorem dX4_readFact_50 : decode cX4_readFact 50 = .ok (.iadd, 1) := by decide +kernel
theorem dX4_readFact_51 : decode cX4_readFact 51 = .ok (.invokevirtual 167, 3) := by decide +kernel
theorem dX4_readFact_54 : decode cX4_readFact 54 = .ok (.aload_n 1, 1) := by decide +kernel
theorem dX4_readFact_55 : decode cX4_readFact 55 = .ok (.bipush 30, 2) := by decide +kernel
theorem dX4_readFact_57 : decode cX4_readFact 57 = .ok (.invokevirtual 164, 3) := by decide +kernel
theorem dX4_readFact_60 : decode cX4_readFact 60 = .ok (.goto 98, 3) := by decide +kernel
theorem dX4_readFact_63 : decode cX4_readFact 63 = .ok (.iload 4, 2) := by decide +kernel
theorem dX4_readFact_65 : decode cX4_readFact 65 = .ok (.ifCond .eq 36, 3) := by decide +kernel
theorem dX4_readFact_68 : decode cX4_readFact 68 = .ok (.aload_n 0, 1) := by decide +kernel
theorem dX4_readFact_69 : decode cX4_readFact 69 = .ok (.invokevirtual 38, 3) := by decide +kernel
theorem dX4_readFact_72 : decode cX4_readFact 72 = .ok (.aload_n 0, 1) := by decide +kernel
theorem dX4_readFact_73 : decode cX4_readFact 73 = .ok (.aload_n 1, 1) := by decide +kernel
theorem dX4_readFact_74 : decode cX4_readFact 74 = .ok (.iload_n 2, 1) := by decide +kernel
theorem dX4_readFact_75 : decode cX4_readFact 75 = .ok (.iconst 1, 1) := by decide +kernel
theorem dX4_readFact_76 : decode cX4_readFact 76 = .ok (.iadd, 1) := by decide +kernel
theorem dX4_readFact_77 : decode cX4_readFact 77 = .ok (.invokevirtual 160, 3) := by decide +kernel
theorem dX4_readFact_80 : decode cX4_readFact 80 = .ok (.aload_n 0, 1) := by decide +kernel
theorem dX4_readFact_81 : decode cX4_readFact 81 = .ok (.bipush 36, 2) := by decide +kernel
theorem dX4_readFact_83 : decode cX4_readFact 83 = .ok (.invokevirtual 120, 3) := by decide +kernel
theorem dX4_readFact_86 : decode cX4_readFact 86 = .ok (.ifCond .ne 8, 3) := by decide +kernel
theorem dX4_readFact_89 : decode cX4_readFact 89 = .ok (.aload_n 0, 1) := by decide +kernel
theorem dX4_readFact_90 : decode cX4_readFact 90 = .ok (.iconst 0, 1) := by decide +kernel
theorem dX4_readFact_91 : decode cX4_readFact 91 = .ok (.invokevirtual 123, 3) := by decide +kernel
theorem dX4_readFact_94 : decode cX4_readFact 94 = .ok (.aload_n 0, 1) := by decide +kernel
theorem dX4_readFact_95 : decode cX4_readFact 95 = .ok (.invokevirtual 38, 3) := by decide +kernel
theorem dX4_readFact_98 : decode cX4_readFact 98 = .ok (.goto 60, 3) := by decide +kernel
theorem dX4_readFact_101 : decode cX4_readFact 101 = .ok (.aload_n 0, 1) := by decide +kernel
theorem dX4_readFact_102 : decode cX4_readFact 102 = .ok (.aload_n 1, 1) := by decide +kernel
theorem dX4_readFact_103 : decode cX4_readFact 103 = .ok (.invokevirtual 156, 3) := by decide +kernel
theorem dX4_readFact_106 : decode cX4_readFact 106 = .ok (.aload_n 0, 1) := by decide +kernel
theorem dX4_readFact_107 : decode cX4_readFact 107 = .ok (.getfield 47, 3) := by decide +kernel
theorem dX4_readFact_110 : decode cX4_readFact 110 = .ok (.istore 5, 2) := by decide +kernel
theorem dX4_readFact_112 : decode cX4_readFact 112 = .ok (.aload_n 0, 1) := by decide +kernel
theorem dX4_readFact_113 : decode cX4_readFact 113 = .ok (.getfield 44, 3) := by decide +kernel
theorem dX4_readFact_116 : decode cX4_readFact 116 = .ok (.iconst 3, 1) := by decide +kernel
theorem dX4_readFact_117 : decode cX4_readFact 117 = .ok (.if_icmp .ne 17, 3) := by decide +kernel
theorem dX4_readFact_120 : decode cX4_readFact 120 = .ok (.iload 5, 2) := by decide +kernel
theorem dX4_readFact_122 : decode cX4_readFact 122 = .ok (.bipush 25, 2) := by decide +kernel
theorem dX4_readFact_124 : decode cX4_readFact 124 = .ok (.if_icmp .lt 10, 3) := by decide +kernel
theorem dX4_readFact_127 : decode cX4_readFact 127 = .ok (.iload 5, 2) := by decide +kernel
theorem dX4_readFact_129 : decode cX4_readFact 129 = .ok (.bipush 29, 2) := by decide +kernel
theorem dX4_readFact_131 : decode cX4_readFact 131 = .ok (.if_icmp .le 8, 3) := by decide +kernel
theorem dX4_readFact_134 : decode cX4_readFact 134 = .ok (.aload_n 0, 1) := by decide +kernel
theorem dX4_readFact_135 : decode cX4_readFact 135 = .ok (.iconst 0, 1) := by decide +kernel
theorem dX4_readFact_136 : decode cX4_readFact 136 = .ok (.invokevirtual 123, 3) := by decide +kernel
theorem dX4_readFact_139 : decode cX4_readFact 139 = .ok (.aload_n 0, 1) := by decide +kernel
theorem dX4_readFact_140 : decode cX4_readFact 140 = .ok (.invokevirtual 170, 3) := by decide +kernel
theorem dX4_readFact_143 : decode cX4_readFact 143 = .ok (.aload_n 0, 1) := by decide +kernel
theorem dX4_readFact_144 : decode cX4_readFact 144 = .ok (.invokevirtual 38, 3) := by decide +kernel
theorem dX4_readFact_147 : decode cX4_readFact 147 = .ok (.aload_n 0, 1) := by decide +kernel
theorem dX4_readFact_148 : decode cX4_readFact 148 = .ok (.aload_n 1, 1) := by decide +kernel
theorem dX4_readFact_149 : decode cX4_readFact 149 = .ok (.invokevirtual 156, 3) := by decide +kernel
theorem dX4_readFact_152 : decode cX4_readFact 152 = .ok (.aload_n 1, 1) := by decide +kernel
theorem dX4_readFact_153 : decode cX4_readFact 153 = .ok (.iload 5, 2) := by decide +kernel
theorem dX4_readFact_155 : decode cX4_readFact 155 = .ok (.invokevirtual 164, 3) := by decide +kernel
theorem dX4_readFact_158 : decode cX4_readFact 158 = .ok (.return_, 1) := by decide +kernel
def f_X4_readFact_b_139 (rF rT : Nat → Nat → Int32 → mm_S → Option mm_S) (a0 : Nat) (a1 : Nat) (i5 : Int32) (σ : mm_S) : Option (mm_S) :=
    bv (f_X4_countPart a0 σ) fun σ2 =>
    bv (f_X4_step a0 σ2) fun σ4 =>
    bv (f_X4_readSum a0 a1 σ4) fun σ6 =>
    bv (f_X5_add a1 i5 σ6) fun σ8 =>
    some σ8
theorem v_X4_readFact_b_139 {g : mm_G} (d : Nat) {rF rT : Nat → Nat → Int32 → mm_S → Option mm_S} {a0 : Nat} {a1 : Nat} {i5 : Int32} {σ : mm_S} {res : mm_S} (HF : ∀ a0 a1 i2 σ res, (mm_K a0).1 = 4 → (mm_K a1).1 = 5 → rF a0 a1 i2 σ = some res → SM g (d + 3) yy_X4_readFact [.ref a0, .ref a1, .int i2] σ .null res) (HT : ∀ a0 a1 i2 σ res, (mm_K a0).1 = 4 → (mm_K a1).1 = 5 → rT a0 a1 i2 σ = some res → SM g (d + 3) yy_X4_readTest [.ref a0, .ref a1, .int i2] σ .null res)  (h_a0 : (mm_K a0).1 = 4) (h_a1 : (mm_K a1).1 = 5) (h : f_X4_readFact_b_139 rF rT a0 a1 i5 σ = some res) : SV g (d + 4) yy_X4_readFact 139 [(0, .ref a0), (1, .ref a1), (5, .int i5)] [] σ .null res := by
  unfold f_X4_readFact_b_139 at h
  refine e_aload_n 0 dX4_readFact_139 rfl rfl ?_
  obtain ⟨σ2, q1, h⟩ := bv_some h
  refine s_callVv [] dX4_readFact_140 ml_RX4_170 h_a0 rfl rfl (v_X4_countPart (d + 2) h_a0 q1) (Nat.le_of_ble_eq_true rfl) ?_
  refine e_aload_n 0 dX4_readFact_143 rfl rfl ?_
  obtain ⟨σ4, q3, h⟩ := bv_some h
  refine s_callVv [] dX4_readFact_144 ml_RX4_38 h_a0 rfl rfl (v_X4_step (d + 3) h_a0 q3) (Nat.le_of_ble_eq_true rfl) ?_
  refine e_aload_n 0 dX4_readFact_147 rfl rfl ?_
  refine e_aload_n 1 dX4_readFact_148 rfl rfl ?_
  obtain ⟨σ6, q5, h⟩ := bv_some h
  refine s_callVv [.ref a1] dX4_readFact_149 ml_RX4_156 h_a0 rfl rfl (v_X4_readSum (d + 0) h_a0 h_a1 q5) (Nat.le_of_ble_eq_true rfl) ?_
  refine e_aload_n 1 dX4_readFact_152 rfl rfl ?_
  refine e_iload 2 dX4_readFact_153  rfl ?_
  obtain ⟨σ8, q7, h⟩ := bv_some h
  refine s_callVv [.int i5] dX4_readFact_155 ml_RX4_164 h_a1 rfl rfl (v_X5_add (d + 3) h_a1 q7) (Nat.le_of_ble_eq_true rfl) ?_
  obtain rfl := Option.some.inj h
  exact s_ret rfl rfl dX4_readFact_158
def f_X4_readFact_b_38 (rF rT : Nat → Nat → Int32 → mm_S → Option mm_S) (a0 : Nat) (a1 : Nat) (i2 : Int32) (i3 : Int32) (i4 : Int32) (σ : mm_S) : Option (mm_S) :=
    if i3 = 0 then
      if i4 = 0 then
        bv (f_X4_readSum a0 a1 σ) fun σ12 =>
        lt ((σ12.1 a0 7)) fun x13 =>
        if (σ12.1 a0 6) = (3 : Int32) then
          if x13 < (25 : Int32) then
            bv (f_X4_fail a0 (0 : Int32) σ12) fun σ20 =>
            f_X4_readFact_b_139 rF rT a0 a1 x13 σ20
          else
            if x13 ≤ (29 : Int32) then
              f_X4_readFact_b_139 rF rT a0 a1 x13 σ12
            else
              bv (f_X4_fail a0 (0 : Int32) σ12) fun σ23 =>
              f_X4_readFact_b_139 rF rT a0 a1 x13 σ23
        else
          bv (f_X4_fail a0 (0 : Int32) σ12) fun σ17 =>
          f_X4_readFact_b_139 rF rT a0 a1 x13 σ17
      else
        bv (f_X4_step a0 σ) fun σ25 =>
        bv (rT a0 a1 (i2 + (1 : Int32)) σ25) fun σ27 =>
        bd (f_X4_isSign a0 (36 : Int32) σ27) fun r30 σ29 =>
        if r30 = 0 then
          bv (f_X4_fail a0 (0 : Int32) σ29) fun σ35 =>
          bv (f_X4_step a0 σ35) fun σ37 =>
          some σ37
        else
          bv (f_X4_step a0 σ29) fun σ33 =>
          some σ33
    else
      bv (f_X4_step a0 σ) fun σ39 =>
      bv (rF a0 a1 (i2 + (1 : Int32)) σ39) fun σ41 =>
      bv (f_X5_add a1 (30 : Int32) σ41) fun σ43 =>
      some σ43
theorem v_X4_readFact_b_38 {g : mm_G} (d : Nat) {rF rT : Nat → Nat → Int32 → mm_S → Option mm_S} {a0 : Nat} {a1 : Nat} {i2 : Int32} {i3 : Int32} {i4 : Int32} {σ : mm_S} {res : mm_S} (HF : ∀ a0 a1 i2 σ res, (mm_K a0).1 = 4 → (mm_K a1).1 = 5 → rF a0 a1 i2 σ = some res → SM g (d + 3) yy_X4_readFact [.ref a0, .ref a1, .int i2] σ .null res) (HT : ∀ a0 a1 i2 σ res, (mm_K a0).1 = 4 → (mm_K a1).1 = 5 → rT a0 a1 i2 σ = some res → SM g (d + 3) yy_X4_readTest [.ref a0, .ref a1, .int i2] σ .null res)  (h_a0 : (mm_K a0).1 = 4) (h_a1 : (mm_K a1).1 = 5) (h : f_X4_readFact_b_38 rF rT a0 a1 i2 i3 i4 σ = some res) : SV g (d + 4) yy_X4_readFact 38 [(0, .ref a0), (1, .ref a1), (2, .int i2), (3, .int i3), (4, .int i4)] [] σ .null res := by
  unfold f_X4_readFact_b_38 at h
  refine e_iload_n 3 dX4_readFact_38 rfl rfl ?_
  refine e_if_eq 63 dX4_readFact_39 (by decide) (fun c9 => ?_) (fun c9 => ?_)
  · rw [if_pos c9] at h
    refine e_iload 4 dX4_readFact_63  rfl ?_
    refine e_if_eq 101 dX4_readFact_65 (by decide) (fun c10 => ?_) (fun c10 => ?_)
    · rw [if_pos c10] at h
      refine e_aload_n 0 dX4_readFact_101 rfl rfl ?_
      refine e_aload_n 1 dX4_readFact_102 rfl rfl ?_
      obtain ⟨σ12, q11, h⟩ := bv_some h
      refine s_callVv [.ref a1] dX4_readFact_103 ml_RX4_156 h_a0 rfl rfl (v_X4_readSum (d + 0) h_a0 h_a1 q11) (Nat.le_of_ble_eq_true rfl) ?_
      refine e_aload_n 0 dX4_readFact_106 rfl rfl ?_
      refine s_geti dX4_readFact_107 fl_RX4_47 h_a0 ?_
      obtain ⟨x13, q14, h⟩ := lt_some h
      refine s_nmi q14 ?_
      refine e_istore (L' := [(0, .ref a0), (1, .ref a1), (2, .int i2), (3, .int i3), (4, .int i4), (5, .int x13)]) dX4_readFact_110  (by decide) rfl ?_
      refine e_aload_n 0 dX4_readFact_112 rfl rfl ?_
      refine s_geti dX4_readFact_113 fl_RX4_44 h_a0 ?_
      refine e_iconst (v := (3 : Int32)) dX4_readFact_116 (by decide) ?_
      refine e_icmp_ne 134 dX4_readFact_117 (by decide) (fun c15 => ?_) (fun c15 => ?_)
      · rw [if_neg c15] at h
        refine e_aload_n 0 dX4_readFact_134 rfl rfl ?_
        refine e_iconst (v := (0 : Int32)) dX4_readFact_135 (by decide) ?_
        obtain ⟨σ17, q16, h⟩ := bv_some h
        refine s_callVv [.int (0 : Int32)] dX4_readFact_136 ml_RX4_123 h_a0 rfl rfl (v_X4_fail (d + 3) h_a0 q16) (Nat.le_of_ble_eq_true rfl) ?_
        refine s_pick (L' := [(0, .ref a0), (1, .ref a1), (5, .int x13)]) [0, 1, 5] rfl ?_
        exact v_X4_readFact_b_139 d HF HT h_a0 h_a1 h
      · rw [if_pos c15] at h
        refine e_iload 5 dX4_readFact_120  rfl ?_
        refine e_bipush (v := (25 : Int32)) dX4_readFact_122 (by decide) ?_
        refine e_icmp_lt 134 dX4_readFact_124 (by decide) (fun c18 => ?_) (fun c18 => ?_)
        · rw [if_pos c18] at h
          refine e_aload_n 0 dX4_readFact_134 rfl rfl ?_
          refine e_iconst (v := (0 : Int32)) dX4_readFact_135 (by decide) ?_
          obtain ⟨σ20, q19, h⟩ := bv_some h
          refine s_callVv [.int (0 : Int32)] dX4_readFact_136 ml_RX4_123 h_a0 rfl rfl (v_X4_fail (d + 3) h_a0 q19) (Nat.le_of_ble_eq_true rfl) ?_
          refine s_pick (L' := [(0, .ref a0), (1, .ref a1), (5, .int x13)]) [0, 1, 5] rfl ?_
          exact v_X4_readFact_b_139 d HF HT h_a0 h_a1 h
        · rw [if_neg c18] at h
          refine e_iload 5 dX4_readFact_127  rfl ?_
          refine e_bipush (v := (29 : Int32)) dX4_readFact_129 (by decide) ?_
          refine e_icmp_le 139 dX4_readFact_131 (by decide) (fun c21 => ?_) (fun c21 => ?_)
          · rw [if_pos c21] at h
            refine s_pick (L' := [(0, .ref a0), (1, .ref a1), (5, .int x13)]) [0, 1, 5] rfl ?_
            exact v_X4_readFact_b_139 d HF HT h_a0 h_a1 h
          · rw [if_neg c21] at h
            refine e_aload_n 0 dX4_readFact_134 rfl rfl ?_
            refine e_iconst (v := (0 : Int32)) dX4_readFact_135 (by decide) ?_
            obtain ⟨σ23, q22, h⟩ := bv_some h
            refine s_callVv [.int (0 : Int32)] dX4_readFact_136 ml_RX4_123 h_a0 rfl rfl (v_X4_fail (d + 3) h_a0 q22) (Nat.le_of_ble_eq_true rfl) ?_
            refine s_pick (L' := [(0, .ref a0), (1, .ref a1), (5, .int x13)]) [0, 1, 5] rfl ?_
            exact v_X4_readFact_b_139 d HF HT h_a0 h_a1 h
    · rw [if_neg c10] at h
      refine e_aload_n 0 dX4_readFact_68 rfl rfl ?_
      obtain ⟨σ25, q24, h⟩ := bv_some h
      refine s_callVv [] dX4_readFact_69 ml_RX4_38 h_a0 rfl rfl (v_X4_step (d + 3) h_a0 q24) (Nat.le_of_ble_eq_true rfl) ?_
      refine e_aload_n 0 dX4_readFact_72 rfl rfl ?_
      refine e_aload_n 1 dX4_readFact_73 rfl rfl ?_
      refine e_iload_n 2 dX4_readFact_74 rfl rfl ?_
      refine e_iconst (v := (1 : Int32)) dX4_readFact_75 (by decide) ?_
      refine e_iadd dX4_readFact_76 ?_
      obtain ⟨σ27, q26, h⟩ := bv_some h
      refine s_callVv [.ref a1, .int (i2 + (1 : Int32))] dX4_readFact_77 ml_RX4_160 h_a0 rfl rfl (HT _ _ _ _ _ h_a0 h_a1 q26) (Nat.le_of_ble_eq_true rfl) ?_
      refine e_aload_n 0 dX4_readFact_80 rfl rfl ?_
      refine e_bipush (v := (36 : Int32)) dX4_readFact_81 (by decide) ?_
      obtain ⟨r30, σ29, q28, h⟩ := bd_some h
      refine s_callVi [.int (36 : Int32)] dX4_readFact_83 ml_RX4_120 h_a0 ⟨_, rfl, by decide⟩ rfl (v_X4_isSign (d + 3) h_a0 q28) (Nat.le_of_ble_eq_true rfl) ?_
      refine e_if_ne 94 dX4_readFact_86 (by decide) (fun c31 => ?_) (fun c31 => ?_)
      · rw [if_neg c31] at h
        refine e_aload_n 0 dX4_readFact_94 rfl rfl ?_
        obtain ⟨σ33, q32, h⟩ := bv_some h
        refine s_callVv [] dX4_readFact_95 ml_RX4_38 h_a0 rfl rfl (v_X4_step (d + 3) h_a0 q32) (Nat.le_of_ble_eq_true rfl) ?_
        refine e_goto 158 dX4_readFact_98 (by decide) ?_
        obtain rfl := Option.some.inj h
        exact s_ret rfl rfl dX4_readFact_158
      · rw [if_pos c31] at h
        refine e_aload_n 0 dX4_readFact_89 rfl rfl ?_
        refine e_iconst (v := (0 : Int32)) dX4_readFact_90 (by decide) ?_
        obtain ⟨σ35, q34, h⟩ := bv_some h
        refine s_callVv [.int (0 : Int32)] dX4_readFact_91 ml_RX4_123 h_a0 rfl rfl (v_X4_fail (d + 3) h_a0 q34) (Nat.le_of_ble_eq_true rfl) ?_
        refine e_aload_n 0 dX4_readFact_94 rfl rfl ?_
        obtain ⟨σ37, q36, h⟩ := bv_some h
        refine s_callVv [] dX4_readFact_95 ml_RX4_38 h_a0 rfl rfl (v_X4_step (d + 3) h_a0 q36) (Nat.le_of_ble_eq_true rfl) ?_
        refine e_goto 158 dX4_readFact_98 (by decide) ?_
        obtain rfl := Option.some.inj h
        exact s_ret rfl rfl dX4_readFact_158
  · rw [if_neg c9] at h
    refine e_aload_n 0 dX4_readFact_42 rfl rfl ?_
    obtain ⟨σ39, q38, h⟩ := bv_some h
    refine s_callVv [] dX4_readFact_43 ml_RX4_38 h_a0 rfl rfl (v_X4_step (d + 3) h_a0 q38) (Nat.le_of_ble_eq_true rfl) ?_
    refine e_aload_n 0 dX4_readFact_46 rfl rfl ?_
    refine e_aload_n 1 dX4_readFact_47 rfl rfl ?_
    refine e_iload_n 2 dX4_readFact_48 rfl rfl ?_
    refine e_iconst (v := (1 : Int32)) dX4_readFact_49 (by decide) ?_
    refine e_iadd dX4_readFact_50 ?_
    obtain ⟨σ41, q40, h⟩ := bv_some h
    refine s_callVv [.ref a1, .int (i2 + (1 : Int32))] dX4_readFact_51 ml_RX4_167 h_a0 rfl rfl (HF _ _ _ _ _ h_a0 h_a1 q40) (Nat.le_of_ble_eq_true rfl) ?_
    refine e_aload_n 1 dX4_readFact_54 rfl rfl ?_
    refine e_bipush (v := (30 : Int32)) dX4_readFact_55 (by decide) ?_
    obtain ⟨σ43, q42, h⟩ := bv_some h
    refine s_callVv [.int (30 : Int32)] dX4_readFact_57 ml_RX4_164 h_a1 rfl rfl (v_X5_add (d + 3) h_a1 q42) (Nat.le_of_ble_eq_true rfl) ?_
    refine e_goto 158 dX4_readFact_60 (by decide) ?_
    obtain rfl := Option.some.inj h
    exact s_ret rfl rfl dX4_readFact_158
def f_X4_readFact_b_24 (rF rT : Nat → Nat → Int32 → mm_S → Option mm_S) (a0 : Nat) (a1 : Nat) (i2 : Int32) (i3 : Int32) (i4 : Int32) (σ : mm_S) : Option (mm_S) :=
    if i2 < (10 : Int32) then
      f_X4_readFact_b_38 rF rT a0 a1 i2 i3 i4 σ
    else
      bv (f_X4_fail a0 (2 : Int32) σ) fun σ46 =>
      some σ46
theorem v_X4_readFact_b_24 {g : mm_G} (d : Nat) {rF rT : Nat → Nat → Int32 → mm_S → Option mm_S} {a0 : Nat} {a1 : Nat} {i2 : Int32} {i3 : Int32} {i4 : Int32} {σ : mm_S} {res : mm_S} (HF : ∀ a0 a1 i2 σ res, (mm_K a0).1 = 4 → (mm_K a1).1 = 5 → rF a0 a1 i2 σ = some res → SM g (d + 3) yy_X4_readFact [.ref a0, .ref a1, .int i2] σ .null res) (HT : ∀ a0 a1 i2 σ res, (mm_K a0).1 = 4 → (mm_K a1).1 = 5 → rT a0 a1 i2 σ = some res → SM g (d + 3) yy_X4_readTest [.ref a0, .ref a1, .int i2] σ .null res)  (h_a0 : (mm_K a0).1 = 4) (h_a1 : (mm_K a1).1 = 5) (h : f_X4_readFact_b_24 rF rT a0 a1 i2 i3 i4 σ = some res) : SV g (d + 4) yy_X4_readFact 24 [(0, .ref a0), (1, .ref a1), (2, .int i2), (3, .int i3), (4, .int i4)] [] σ .null res := by
  unfold f_X4_readFact_b_24 at h
  refine e_iload_n 2 dX4_readFact_24 rfl rfl ?_
  refine e_bipush (v := (10 : Int32)) dX4_readFact_25 (by decide) ?_
  refine e_icmp_lt 38 dX4_readFact_27 (by decide) (fun c44 => ?_) (fun c44 => ?_)
  · rw [if_pos c44] at h
    refine s_pick (L' := [(0, .ref a0), (1, .ref a1), (2, .int i2), (3, .int i3), (4, .int i4)]) [0, 1, 2, 3, 4] rfl ?_
    exact v_X4_readFact_b_38 d HF HT h_a0 h_a1 h
  · rw [if_neg c44] at h
    refine e_aload_n 0 dX4_readFact_30 rfl rfl ?_
    refine e_iconst (v := (2 : Int32)) dX4_readFact_31 (by decide) ?_
    obtain ⟨σ46, q45, h⟩ := bv_some h
    refine s_callVv [.int (2 : Int32)] dX4_readFact_32 ml_RX4_123 h_a0 rfl rfl (v_X4_fail (d + 3) h_a0 q45) (Nat.le_of_ble_eq_true rfl) ?_
    refine e_goto 158 dX4_readFact_35 (by decide) ?_
    obtain rfl := Option.some.inj h
    exact s_ret rfl rfl dX4_readFact_158
def f_X4_readFact_b (rF rT : Nat → Nat → Int32 → mm_S → Option mm_S) (a0 : Nat) (a1 : Nat) (i2 : Int32) (σ : mm_S) : Option (mm_S) :=
    bd (f_X4_isWord a0 (19 : Int32) σ) fun r57 σ56 =>
    bd (f_X4_isSign a0 (35 : Int32) σ56) fun r60 σ59 =>
    if r57 = 0 then
      if r60 = 0 then
        f_X4_readFact_b_38 rF rT a0 a1 i2 r57 r60 σ59
      else
        f_X4_readFact_b_24 rF rT a0 a1 i2 r57 r60 σ59
    else
      f_X4_readFact_b_24 rF rT a0 a1 i2 r57 r60 σ59
theorem v_X4_readFact_b {g : mm_G} (d : Nat) {rF rT : Nat → Nat → Int32 → mm_S → Option mm_S} {a0 : Nat} {a1 : Nat} {i2 : Int32} {σ : mm_S} {res : mm_S} (HF : ∀ a0 a1 i2 σ res, (mm_K a0).1 = 4 → (mm_K a1).1 = 5 → rF a0 a1 i2 σ = some res → SM g (d + 3) yy_X4_readFact [.ref a0, .ref a1, .int i2] σ .null res) (HT : ∀ a0 a1 i2 σ res, (mm_K a0).1 = 4 → (mm_K a1).1 = 5 → rT a0 a1 i2 σ = some res → SM g (d + 3) yy_X4_readTest [.ref a0, .ref a1, .int i2] σ .null res) (h_a0 : (mm_K a0).1 = 4) (h_a1 : (mm_K a1).1 = 5) (h : f_X4_readFact_b rF rT a0 a1 i2 σ = some res) : SM g (d + 4) yy_X4_readFact [.ref a0, .ref a1, .int i2] σ .null res := by
  refine s_of (by decide) (Nat.le_of_ble_eq_true rfl) (L := [(0, .ref a0), (1, .ref a1), (2, .int i2)]) rfl ?_
  unfold f_X4_readFact_b at h
  refine e_aload_n 0 dX4_readFact_0 rfl rfl ?_
  refine e_bipush (v := (19 : Int32)) dX4_readFact_1 (by decide) ?_
  obtain ⟨r57, σ56, q55, h⟩ := bd_some h
  refine s_callVi [.int (19 : Int32)] dX4_readFact_3 ml_RX4_127 h_a0 ⟨_, rfl, by decide⟩ rfl (v_X4_isWord (d + 3) h_a0 q55) (Nat.le_of_ble_eq_true rfl) ?_
  refine e_istore_n (L' := [(0, .ref a0), (1, .ref a1), (2, .int i2), (3, .int r57)]) dX4_readFact_6 rfl (by decide) rfl ?_
  refine e_aload_n 0 dX4_readFact_7 rfl rfl ?_
  refine e_bipush (v := (35 : Int32)) dX4_readFact_8 (by decide) ?_
  obtain ⟨r60, σ59, q58, h⟩ := bd_some h
  refine s_callVi [.int (35 : Int32)] dX4_readFact_10 ml_RX4_120 h_a0 ⟨_, rfl, by decide⟩ rfl (v_X4_isSign (d + 3) h_a0 q58) (Nat.le_of_ble_eq_true rfl) ?_
  refine e_istore (L' := [(0, .ref a0), (1, .ref a1), (2, .int i2), (3, .int r57), (4, .int r60)]) dX4_readFact_13  (by decide) rfl ?_
  refine e_iload_n 3 dX4_readFact_15 rfl rfl ?_
  refine e_if_ne 24 dX4_readFact_16 (by decide) (fun c61 => ?_) (fun c61 => ?_)
  · rw [if_neg c61] at h
    refine s_pick (L' := [(0, .ref a0), (1, .ref a1), (2, .int i2), (3, .int r57), (4, .int r60)]) [0, 1, 2, 3, 4] rfl ?_
    exact v_X4_readFact_b_24 d HF HT h_a0 h_a1 h
  · rw [if_pos c61] at h
    refine e_iload 4 dX4_readFact_19  rfl ?_
    refine e_if_eq 38 dX4_readFact_21 (by decide) (fun c62 => ?_) (fun c62 => ?_)
    · rw [if_pos c62] at h
      refine s_pick (L' := [(0, .ref a0), (1, .ref a1), (2, .int i2), (3, .int r57), (4, .int r60)]) [0, 1, 2, 3, 4] rfl ?_
      exact v_X4_readFact_b_38 d HF HT h_a0 h_a1 h
    · rw [if_neg c62] at h
      refine s_pick (L' := [(0, .ref a0), (1, .ref a1), (2, .int i2), (3, .int r57), (4, .int r60)]) [0, 1, 2, 3, 4] rfl ?_
      exact v_X4_readFact_b_24 d HF HT h_a0 h_a1 h
def f_X4_rec : Nat → Bool → Nat → Nat → Int32 → mm_S → Option mm_S
  | 0, _, _, _, _, _ => none
  | n + 1, true, a0, a1, i2, σ => f_X4_readTest_b (f_X4_rec n false) (f_X4_rec n true) a0 a1 i2 σ
  | n + 1, false, a0, a1, i2, σ => f_X4_readFact_b (f_X4_rec n false) (f_X4_rec n true) a0 a1 i2 σ
theorem v_X4_rec {g : mm_G} : ∀ (n d : Nat) (b : Bool) (a0 a1 : Nat) (i2 : Int32) (σ res : mm_S), (mm_K a0).1 = 4 → (mm_K a1).1 = 5 → f_X4_rec n b a0 a1 i2 σ = some res → SM g (d + n + 3) (match b with | true => yy_X4_readTest | false => yy_X4_readFact) [.ref a0, .ref a1, .int i2] σ .null res := by
  intro n
  induction n with
  | zero => intro d b a0 a1 i2 σ res h0 h1 h; cases h
  | succ n ih =>
    intro d b a0 a1 i2 σ res h0 h1 h
    cases b with
    | true => exact v_X4_readTest_b (d + n) (fun a0 a1 i2 σ res p q r => ih d false a0 a1 i2 σ res p q r) (fun a0 a1 i2 σ res p q r => ih d true a0 a1 i2 σ res p q r) h0 h1 h
    | false => exact v_X4_readFact_b (d + n) (fun a0 a1 i2 σ res p q r => ih d false a0 a1 i2 σ res p q r) (fun a0 a1 i2 σ res p q r => ih d true a0 a1 i2 σ res p q r) h0 h1 h
def f_X4_readTest (a0 a1 : Nat) (i2 : Int32) (σ : mm_S) : Option mm_S := f_X4_rec 40 true a0 a1 i2 σ
theorem v_X4_readTest {g : mm_G} (d : Nat) {a0 a1 : Nat} {i2 : Int32} {σ res : mm_S} (h_a0 : (mm_K a0).1 = 4) (h_a1 : (mm_K a1).1 = 5) (h : f_X4_readTest a0 a1 i2 σ = some res) : SM g (d + 43) yy_X4_readTest [.ref a0, .ref a1, .int i2] σ .null res := v_X4_rec 40 d true a0 a1 i2 σ res h_a0 h_a1 h
abbrev yy_X4_isLetter : mm_Y := (yX4_isLetter, cX4_isLetter, 2, (some .boolean))
theorem dX4_isLetter_0 : decode cX4_isLetter 0 = .ok (.aload_n 0, 1) := by decide +kernel
theorem dX4_isLetter_1 : decode cX4_isLetter 1 = .ok (.getfield 21, 3) := by decide +kernel
theorem dX4_isLetter_4 : decode cX4_isLetter 4 = .ok (.getfield 83, 3) := by decide +kernel
theorem dX4_isLetter_7 : decode cX4_isLetter 7 = .ok (.iload_n 1, 1) := by decide +kernel
theorem dX4_isLetter_8 : decode cX4_isLetter 8 = .ok (.baload, 1) := by decide +kernel
theorem dX4_isLetter_9 : decode cX4_isLetter 9 = .ok (.bipush 97, 2) := by decide +kernel
theorem dX4_isLetter_11 : decode cX4_isLetter 11 = .ok (.if_icmp .lt 21, 3) := by decide +kernel
theorem dX4_isLetter_14 : decode cX4_isLetter 14 = .ok (.aload_n 0, 1) := by decide +kernel
theorem dX4_isLetter_15 : decode cX4_isLetter 15 = .ok (.getfield 21, 3) := by decide +kernel
theorem dX4_isLetter_18 : decode cX4_isLetter 18 = .ok (.getfield 83, 3) := by decide +kernel
theorem dX4_isLetter_21 : decode cX4_isLetter 21 = .ok (.iload_n 1, 1) := by decide +kernel
theorem dX4_isLetter_22 : decode cX4_isLetter 22 = .ok (.baload, 1) := by decide +kernel
theorem dX4_isLetter_23 : decode cX4_isLetter 23 = .ok (.bipush 122, 2) := by decide +kernel
theorem dX4_isLetter_25 : decode cX4_isLetter 25 = .ok (.if_icmp .gt 7, 3) := by decide +kernel
theorem dX4_isLetter_28 : decode cX4_isLetter 28 = .ok (.iconst 1, 1) := by decide +kernel
theorem dX4_isLetter_29 : decode cX4_isLetter 29 = .ok (.goto 4, 3) := by decide +kernel
theorem dX4_isLetter_32 : decode cX4_isLetter 32 = .ok (.iconst 0, 1) := by decide +kernel
theorem dX4_isLetter_33 : decode cX4_isLetter 33 = .ok (.ireturn, 1) := by decide +kernel
def f_X4_isLetter (a0 : Nat) (i1 : Int32) (σ : mm_S) : Option (Int32 × mm_S) :=
    gd i1 400 <|
    if (σ.1 2 i1.toNatClampNeg) < (97 : Int32) then
      some ((0 : Int32), σ)
    else
      gd i1 400 <|
      if (122 : Int32) < (σ.1 2 i1.toNatClampNeg) then
        some ((0 : Int32), σ)
      else
        some ((1 : Int32), σ)
theorem v_X4_isLetter {g : mm_G} (d : Nat) {a0 : Nat} {i1 : Int32} {σ : mm_S} {res : Int32 × mm_S} (h_a0 : (mm_K a0).1 = 4) (h : f_X4_isLetter a0 i1 σ = some res) : SM g (d + 0) yy_X4_isLetter [.ref a0, .int i1] σ (.int res.1) res.2 := by
  refine s_of (by decide) (Nat.le_of_ble_eq_true rfl) (L := [(0, .ref a0), (1, .int i1)]) rfl ?_
  unfold f_X4_isLetter at h
  refine e_aload_n 0 dX4_isLetter_0 rfl rfl ?_
  refine s_getr dX4_isLetter_1 fl_RX4_21 h_a0 (r_4_0 h_a0).1 ?_
  refine s_getr dX4_isLetter_4 fl_RX4_83 (ka_1 (r_4_0 (w := 0) h_a0).2) (r_6_0 (ka_1 (r_4_0 (w := 0) h_a0).2)).1 ?_
  refine e_iload_n 1 dX4_isLetter_7 rfl rfl ?_
  obtain ⟨q5, h⟩ := gd_some h
  refine s_bald dX4_isLetter_8 (r_6_0 (w := 0) (ka_1 (r_4_0 (w := 0) h_a0).2)).2 q5 ?_
  refine e_bipush (v := (97 : Int32)) dX4_isLetter_9 (by decide) ?_
  refine e_icmp_lt 32 dX4_isLetter_11 (by decide) (fun c6 => ?_) (fun c6 => ?_)
  · rw [if_pos c6] at h
    refine e_iconst (v := (0 : Int32)) dX4_isLetter_32 (by decide) ?_
    obtain rfl := Option.some.inj h
    exact s_ret rfl ⟨_, rfl, nb1 (Or.inl rfl)⟩ dX4_isLetter_33
  · rw [if_neg c6] at h
    refine e_aload_n 0 dX4_isLetter_14 rfl rfl ?_
    refine s_getr dX4_isLetter_15 fl_RX4_21 h_a0 (r_4_0 h_a0).1 ?_
    refine s_getr dX4_isLetter_18 fl_RX4_83 (ka_1 (r_4_0 (w := 0) h_a0).2) (r_6_0 (ka_1 (r_4_0 (w := 0) h_a0).2)).1 ?_
    refine e_iload_n 1 dX4_isLetter_21 rfl rfl ?_
    obtain ⟨q7, h⟩ := gd_some h
    refine s_bald dX4_isLetter_22 (r_6_0 (w := 0) (ka_1 (r_4_0 (w := 0) h_a0).2)).2 q7 ?_
    refine e_bipush (v := (122 : Int32)) dX4_isLetter_23 (by decide) ?_
    refine e_icmp_gt 32 dX4_isLetter_25 (by decide) (fun c8 => ?_) (fun c8 => ?_)
    · rw [if_pos c8] at h
      refine e_iconst (v := (0 : Int32)) dX4_isLetter_32 (by decide) ?_
      obtain rfl := Option.some.inj h
      exact s_ret rfl ⟨_, rfl, nb1 (Or.inl rfl)⟩ dX4_isLetter_33
    · rw [if_neg c8] at h
      refine e_iconst (v := (1 : Int32)) dX4_isLetter_28 (by decide) ?_
      refine e_goto 33 dX4_isLetter_29 (by decide) ?_
      obtain rfl := Option.some.inj h
      exact s_ret rfl ⟨_, rfl, nb1 (Or.inr rfl)⟩ dX4_isLetter_33
