abbrev yy_X9_chain : mm_Y := (yX9_chain, cX9_chain, 7, (some .int))
theorem dX9_chain_0 : decode cX9_chain 0 = .ok (.aload_n 0, 1) := by decide +kernel
theorem dX9_chain_1 : decode cX9_chain 1 = .ok (.iload_n 1, 1) := by decide +kernel
theorem dX9_chain_2 : decode cX9_chain 2 = .ok (.invokevirtual 138, 3) := by decide +kernel
theorem dX9_chain_5 : decode cX9_chain 5 = .ok (.ifCond .eq 12, 3) := by decide +kernel
theorem dX9_chain_8 : decode cX9_chain 8 = .ok (.iload_n 2, 1) := by decide +kernel
theorem dX9_chain_9 : decode cX9_chain 9 = .ok (.ifCond .lt 8, 3) := by decide +kernel
theorem dX9_chain_12 : decode cX9_chain 12 = .ok (.iload_n 2, 1) := by decide +kernel
theorem dX9_chain_13 : decode cX9_chain 13 = .ok (.iconst 1, 1) := by decide +kernel
theorem dX9_chain_14 : decode cX9_chain 14 = .ok (.if_icmp .le 5, 3) := by decide +kernel
theorem dX9_chain_17 : decode cX9_chain 17 = .ok (.iconst (-1), 1) := by decide +kernel
theorem dX9_chain_18 : decode cX9_chain 18 = .ok (.ireturn, 1) := by decide +kernel
theorem dX9_chain_19 : decode cX9_chain 19 = .ok (.iconst 0, 1) := by decide +kernel
theorem dX9_chain_20 : decode cX9_chain 20 = .ok (.istore_n 3, 1) := by decide +kernel
theorem dX9_chain_21 : decode cX9_chain 21 = .ok (.iconst 0, 1) := by decide +kernel
theorem dX9_chain_22 : decode cX9_chain 22 = .ok (.istore 4, 2) := by decide +kernel
theorem dX9_chain_24 : decode cX9_chain 24 = .ok (.iload_n 1, 1) := by decide +kernel
theorem dX9_chain_25 : decode cX9_chain 25 = .ok (.istore 5, 2) := by decide +kernel
theorem dX9_chain_27 : decode cX9_chain 27 = .ok (.iconst 0, 1) := by decide +kernel
theorem dX9_chain_28 : decode cX9_chain 28 = .ok (.istore 6, 2) := by decide +kernel
theorem dX9_chain_30 : decode cX9_chain 30 = .ok (.iload 6, 2) := by decide +kernel
theorem dX9_chain_32 : decode cX9_chain 32 = .ok (.bipush 6, 2) := by decide +kernel
theorem dX9_chain_34 : decode cX9_chain 34 = .ok (.if_icmp .ge 52, 3) := by decide +kernel
theorem dX9_chain_37 : decode cX9_chain 37 = .ok (.aload_n 0, 1) := by decide +kernel
theorem dX9_chain_38 : decode cX9_chain 38 = .ok (.iload 5, 2) := by decide +kernel
theorem dX9_chain_40 : decode cX9_chain 40 = .ok (.invokevirtual 138, 3) := by decide +kernel
theorem dX9_chain_43 : decode cX9_chain 43 = .ok (.ifCond .eq 43, 3) := by decide +kernel
theorem dX9_chain_46 : decode cX9_chain 46 = .ok (.iload_n 3, 1) := by decide +kernel
theorem dX9_chain_47 : decode cX9_chain 47 = .ok (.iload 5, 2) := by decide +kernel
theorem dX9_chain_49 : decode cX9_chain 49 = .ok (.ishr, 1) := by decide +kernel
theorem dX9_chain_50 : decode cX9_chain 50 = .ok (.iconst 1, 1) := by decide +kernel
theorem dX9_chain_51 : decode cX9_chain 51 = .ok (.iand, 1) := by decide +kernel
theorem dX9_chain_52 : decode cX9_chain 52 = .ok (.ifCond .ne 34, 3) := by decide +kernel
theorem dX9_chain_55 : decode cX9_chain 55 = .ok (.iload_n 3, 1) := by decide +kernel
theorem dX9_chain_56 : decode cX9_chain 56 = .ok (.iconst 1, 1) := by decide +kernel
theorem dX9_chain_57 : decode cX9_chain 57 = .ok (.iload 5, 2) := by decide +kernel
theorem dX9_chain_59 : decode cX9_chain 59 = .ok (.ishl, 1) := by decide +kernel
theorem dX9_chain_60 : decode cX9_chain 60 = .ok (.ior, 1) := by decide +kernel
theorem dX9_chain_61 : decode cX9_chain 61 = .ok (.istore_n 3, 1) := by decide +kernel
theorem dX9_chain_62 : decode cX9_chain 62 = .ok (.iinc 4 1, 3) := by decide +kernel
theorem dX9_chain_65 : decode cX9_chain 65 = .ok (.aload_n 0, 1) := by decide +kernel
theorem dX9_chain_66 : decode cX9_chain 66 = .ok (.getfield 50, 3) := by decide +kernel
theorem dX9_chain_69 : decode cX9_chain 69 = .ok (.getfield 107, 3) := by decide +kernel
theorem dX9_chain_72 : decode cX9_chain 72 = .ok (.getfield 151, 3) := by decide +kernel
theorem dX9_chain_75 : decode cX9_chain 75 = .ok (.iload 5, 2) := by decide +kernel
theorem dX9_chain_77 : decode cX9_chain 77 = .ok (.iaload, 1) := by decide +kernel
theorem dX9_chain_78 : decode cX9_chain 78 = .ok (.istore 5, 2) := by decide +kernel
theorem dX9_chain_80 : decode cX9_chain 80 = .ok (.iinc 6 1, 3) := by decide +kernel
theorem dX9_chain_83 : decode cX9_chain 83 = .ok (.goto (-53), 3) := by decide +kernel
theorem dX9_chain_86 : decode cX9_chain 86 = .ok (.iload_n 2, 1) := by decide +kernel
theorem dX9_chain_87 : decode cX9_chain 87 = .ok (.ifCond .ne 6, 3) := by decide +kernel
theorem dX9_chain_90 : decode cX9_chain 90 = .ok (.iload 4, 2) := by decide +kernel
theorem dX9_chain_92 : decode cX9_chain 92 = .ok (.ireturn, 1) := by decide +kernel
theorem dX9_chain_93 : decode cX9_chain 93 = .ok (.iload 5, 2) := by decide +kernel
theorem dX9_chain_95 : decode cX9_chain 95 = .ok (.iload_n 1, 1) := by decide +kernel
theorem dX9_chain_96 : decode cX9_chain 96 = .ok (.if_icmp .ne 7, 3) := by decide +kernel
theorem dX9_chain_99 : decode cX9_chain 99 = .ok (.iconst 1, 1) := by decide +kernel
theorem dX9_chain_100 : decode cX9_chain 100 = .ok (.goto 4, 3) := by decide +kernel
theorem dX9_chain_103 : decode cX9_chain 103 = .ok (.iconst 0, 1) := by decide +kernel
theorem dX9_chain_104 : decode cX9_chain 104 = .ok (.ireturn, 1) := by decide +kernel
def f_X9_chain_86 (i1 : Int32) (i2 : Int32) (i4 : Int32) (i5 : Int32) (σ : mm_S) : Option (Int32 × mm_S) :=
    if i2 = 0 then
      some (i4, σ)
    else
      if i5 = i1 then
        some ((1 : Int32), σ)
      else
        some ((0 : Int32), σ)
theorem v_X9_chain_86 {g : mm_G} (d : Nat) {i1 : Int32} {i2 : Int32} {i4 : Int32} {i5 : Int32} {σ : mm_S} {res : Int32 × mm_S}   (h : f_X9_chain_86 i1 i2 i4 i5 σ = some res) : SV g (d + 1) yy_X9_chain 86 [(1, .int i1), (2, .int i2), (4, .int i4), (5, .int i5)] [] σ (.int res.1) res.2 := by
  unfold f_X9_chain_86 at h
  refine e_iload_n 1 dX9_chain_86 rfl rfl ?_
  refine e_if_ne 93 dX9_chain_87 (by decide) (fun c1 => ?_) (fun c1 => ?_)
  · rw [if_neg c1] at h
    refine e_iload 3 dX9_chain_93  rfl ?_
    refine e_iload_n 0 dX9_chain_95 rfl rfl ?_
    refine e_icmp_ne 103 dX9_chain_96 (by decide) (fun c2 => ?_) (fun c2 => ?_)
    · rw [if_neg c2] at h
      refine e_iconst (v := (0 : Int32)) dX9_chain_103 (by decide) ?_
      obtain rfl := Option.some.inj h
      exact s_ret rfl ⟨_, rfl, rfl⟩ dX9_chain_104
    · rw [if_pos c2] at h
      refine e_iconst (v := (1 : Int32)) dX9_chain_99 (by decide) ?_
      refine e_goto 104 dX9_chain_100 (by decide) ?_
      obtain rfl := Option.some.inj h
      exact s_ret rfl ⟨_, rfl, rfl⟩ dX9_chain_104
  · rw [if_pos c1] at h
    refine e_iload 2 dX9_chain_90  rfl ?_
    obtain rfl := Option.some.inj h
    exact s_ret rfl ⟨_, rfl, rfl⟩ dX9_chain_92
def f_X9_chain_30 (a0 : Nat) (i1 : Int32) (i2 : Int32) (i3 : Int32) (i4 : Int32) (i5 : Int32) (i6 : Int32) (σ : mm_S) : Option (Int32 × mm_S) :=
  lp lpN (fun (k30 : (Int32 × Int32 × Int32 × Int32) → mm_S → Option (Int32 × mm_S)) (v : Int32 × Int32 × Int32 × Int32) (σ : mm_S) =>
    if (6 : Int32) ≤ v.2.2.2 then
      f_X9_chain_86 i1 i2 v.2.1 v.2.2.1 σ
    else
      bd (f_X9_isLodger a0 v.2.2.1 σ) fun r6 σ5 =>
      if r6 = 0 then
        f_X9_chain_86 i1 i2 v.2.1 v.2.2.1 σ5
      else
        if ((v.1 >>> (v.2.2.1 &&& 31)) &&& (1 : Int32)) = 0 then
          lt ((v.1 ||| ((1 : Int32) <<< (v.2.2.1 &&& 31)))) fun x9 =>
          lt (v.2.1 + Int32.ofInt (1)) fun x11 =>
          gd v.2.2.1 6 <|
          lt ((σ5.1 ((26 + 5) + 3) v.2.2.1.toNatClampNeg)) fun x14 =>
          lt (v.2.2.2 + Int32.ofInt (1)) fun x16 =>
          k30 (x9, x11, x14, x16) σ5
        else
          f_X9_chain_86 i1 i2 v.2.1 v.2.2.1 σ5) (i3, i4, i5, i6) σ
theorem v_X9_chain_30 {g : mm_G} (d : Nat) {a0 : Nat} {i1 : Int32} {i2 : Int32} {i3 : Int32} {i4 : Int32} {i5 : Int32} {i6 : Int32} {σ : mm_S} {res : Int32 × mm_S}  (h_a0 : (mm_K a0).1 = 9) (h : f_X9_chain_30 a0 i1 i2 i3 i4 i5 i6 σ = some res) : SV g (d + 1) yy_X9_chain 30 [(0, .ref a0), (1, .int i1), (2, .int i2), (3, .int i3), (4, .int i4), (5, .int i5), (6, .int i6)] [] σ (.int res.1) res.2 := by
  unfold f_X9_chain_30 at h
  refine lp_ind (P := fun v σ => SV g (d + 1) yy_X9_chain 30 [(0, .ref a0), (1, .int i1), (2, .int i2), (3, .int v.1), (4, .int v.2.1), (5, .int v.2.2.1), (6, .int v.2.2.2)] [] σ (.int res.1) res.2) (fun k30 H30 v σ h => ?_) _ (i3, i4, i5, i6) σ h
  refine e_iload 6 dX9_chain_30  rfl ?_
  refine e_bipush (v := (6 : Int32)) dX9_chain_32 (by decide) ?_
  refine e_icmp_ge 86 dX9_chain_34 (by decide) (fun c3 => ?_) (fun c3 => ?_)
  · rw [if_pos c3] at h
    refine s_pick (L' := [(1, .int i1), (2, .int i2), (4, .int v.2.1), (5, .int v.2.2.1)]) [1, 2, 4, 5] rfl ?_
    exact v_X9_chain_86 d  h
  · rw [if_neg c3] at h
    refine e_aload_n 0 dX9_chain_37 rfl rfl ?_
    refine e_iload 5 dX9_chain_38  rfl ?_
    obtain ⟨r6, σ5, q4, h⟩ := bd_some h
    refine s_callVi [.int v.2.2.1] dX9_chain_40 ml_RX9_138 h_a0 ⟨_, rfl, by decide⟩ rfl (v_X9_isLodger (d + 0) h_a0 q4) (Nat.le_of_ble_eq_true rfl) ?_
    refine e_if_eq 86 dX9_chain_43 (by decide) (fun c7 => ?_) (fun c7 => ?_)
    · rw [if_pos c7] at h
      refine s_pick (L' := [(1, .int i1), (2, .int i2), (4, .int v.2.1), (5, .int v.2.2.1)]) [1, 2, 4, 5] rfl ?_
      exact v_X9_chain_86 d  h
    · rw [if_neg c7] at h
      refine e_iload_n 3 dX9_chain_46 rfl rfl ?_
      refine e_iload 5 dX9_chain_47  rfl ?_
      refine e_ishr dX9_chain_49 ?_
      refine e_iconst (v := (1 : Int32)) dX9_chain_50 (by decide) ?_
      refine e_iand dX9_chain_51 ?_
      refine e_if_ne 86 dX9_chain_52 (by decide) (fun c8 => ?_) (fun c8 => ?_)
      · rw [if_neg c8] at h
        refine s_pick (L' := [(1, .int i1), (2, .int i2), (4, .int v.2.1), (5, .int v.2.2.1)]) [1, 2, 4, 5] rfl ?_
        exact v_X9_chain_86 d  h
      · rw [if_pos c8] at h
        refine e_iload_n 3 dX9_chain_55 rfl rfl ?_
        refine e_iconst (v := (1 : Int32)) dX9_chain_56 (by decide) ?_
        refine e_iload 5 dX9_chain_57  rfl ?_
        refine e_ishl dX9_chain_59 ?_
        refine e_ior dX9_chain_60 ?_
        obtain ⟨x9, q10, h⟩ := lt_some h
        refine s_nmi q10 ?_
        refine e_istore_n (L' := [(0, .ref a0), (1, .int i1), (2, .int i2), (3, .int x9), (4, .int v.2.1), (5, .int v.2.2.1), (6, .int v.2.2.2)]) dX9_chain_61 rfl (by decide) rfl ?_
        obtain ⟨x11, q12, h⟩ := lt_some h
        refine e_iinc (v := x11) (L' := [(0, .ref a0), (1, .int i1), (2, .int i2), (3, .int x9), (4, .int x11), (5, .int v.2.2.1), (6, .int v.2.2.2)]) 4 dX9_chain_62 rfl q12.symm (by decide) rfl ?_
        refine e_aload_n 0 dX9_chain_65 rfl rfl ?_
        refine s_getr dX9_chain_66 fl_RX9_50 h_a0 (r_9_5 h_a0).1 ?_
        refine s_getr dX9_chain_69 fl_RX9_107 (ka_1 (r_9_5 (w := 0) h_a0).2) (r_8_1 (ka_1 (r_9_5 (w := 0) h_a0).2)).1 ?_
        refine s_getr dX9_chain_72 fl_RX9_151 (ka_1 (r_8_1 (w := 0) (ka_1 (r_9_5 (w := 0) h_a0).2)).2) (r_2_4 (ka_1 (r_8_1 (w := 0) (ka_1 (r_9_5 (w := 0) h_a0).2)).2)).1 ?_
        refine e_iload 5 dX9_chain_75  rfl ?_
        obtain ⟨q13, h⟩ := gd_some h
        refine s_iald dX9_chain_77 (r_2_4 (w := 0) (ka_1 (r_8_1 (w := 0) (ka_1 (r_9_5 (w := 0) h_a0).2)).2)).2 q13 ?_
        obtain ⟨x14, q15, h⟩ := lt_some h
        refine s_nmi q15 ?_
        refine e_istore (L' := [(0, .ref a0), (1, .int i1), (2, .int i2), (3, .int x9), (4, .int x11), (5, .int x14), (6, .int v.2.2.2)]) dX9_chain_78  (by decide) rfl ?_
        obtain ⟨x16, q17, h⟩ := lt_some h
        refine e_iinc (v := x16) (L' := [(0, .ref a0), (1, .int i1), (2, .int i2), (3, .int x9), (4, .int x11), (5, .int x14), (6, .int x16)]) 6 dX9_chain_80 rfl q17.symm (by decide) rfl ?_
        refine e_goto 30 dX9_chain_83 (by decide) ?_
        refine s_pick (L' := [(0, .ref a0), (1, .int i1), (2, .int i2), (3, .int x9), (4, .int x11), (5, .int x14), (6, .int x16)]) [0, 1, 2, 3, 4, 5, 6] rfl ?_
        exact H30 (x9, x11, x14, x16) σ5 h
def f_X9_chain (a0 : Nat) (i1 : Int32) (i2 : Int32) (σ : mm_S) : Option (Int32 × mm_S) :=
    bd (f_X9_isLodger a0 i1 σ) fun r26 σ25 =>
    if r26 = 0 then
      some ((-1 : Int32), σ25)
    else
      if i2 < 0 then
        some ((-1 : Int32), σ25)
      else
        if i2 ≤ (1 : Int32) then
          f_X9_chain_30 a0 i1 i2 (0 : Int32) (0 : Int32) i1 (0 : Int32) σ25
        else
          some ((-1 : Int32), σ25)
theorem v_X9_chain {g : mm_G} (d : Nat) {a0 : Nat} {i1 : Int32} {i2 : Int32} {σ : mm_S} {res : Int32 × mm_S} (h_a0 : (mm_K a0).1 = 9) (h : f_X9_chain a0 i1 i2 σ = some res) : SM g (d + 1) yy_X9_chain [.ref a0, .int i1, .int i2] σ (.int res.1) res.2 := by
  refine s_of (by decide) (Nat.le_of_ble_eq_true rfl) (L := [(0, .ref a0), (1, .int i1), (2, .int i2)]) rfl ?_
  unfold f_X9_chain at h
  refine e_aload_n 0 dX9_chain_0 rfl rfl ?_
  refine e_iload_n 1 dX9_chain_1 rfl rfl ?_
  obtain ⟨r26, σ25, q24, h⟩ := bd_some h
  refine s_callVi [.int i1] dX9_chain_2 ml_RX9_138 h_a0 ⟨_, rfl, by decide⟩ rfl (v_X9_isLodger (d + 0) h_a0 q24) (Nat.le_of_ble_eq_true rfl) ?_
  refine e_if_eq 17 dX9_chain_5 (by decide) (fun c27 => ?_) (fun c27 => ?_)
  · rw [if_pos c27] at h
    refine e_iconst (v := (-1 : Int32)) dX9_chain_17 (by decide) ?_
    obtain rfl := Option.some.inj h
    exact s_ret rfl ⟨_, rfl, rfl⟩ dX9_chain_18
  · rw [if_neg c27] at h
    refine e_iload_n 2 dX9_chain_8 rfl rfl ?_
    refine e_if_lt 17 dX9_chain_9 (by decide) (fun c28 => ?_) (fun c28 => ?_)
    · rw [if_pos c28] at h
      refine e_iconst (v := (-1 : Int32)) dX9_chain_17 (by decide) ?_
      obtain rfl := Option.some.inj h
      exact s_ret rfl ⟨_, rfl, rfl⟩ dX9_chain_18
    · rw [if_neg c28] at h
      refine e_iload_n 2 dX9_chain_12 rfl rfl ?_
      refine e_iconst (v := (1 : Int32)) dX9_chain_13 (by decide) ?_
      refine e_icmp_le 19 dX9_chain_14 (by decide) (fun c29 => ?_) (fun c29 => ?_)
      · rw [if_pos c29] at h
        refine e_iconst (v := (0 : Int32)) dX9_chain_19 (by decide) ?_
        refine e_istore_n (L' := [(0, .ref a0), (1, .int i1), (2, .int i2), (3, .int (0 : Int32))]) dX9_chain_20 rfl (by decide) rfl ?_
        refine e_iconst (v := (0 : Int32)) dX9_chain_21 (by decide) ?_
        refine e_istore (L' := [(0, .ref a0), (1, .int i1), (2, .int i2), (3, .int (0 : Int32)), (4, .int (0 : Int32))]) dX9_chain_22  (by decide) rfl ?_
        refine e_iload_n 1 dX9_chain_24 rfl rfl ?_
        refine e_istore (L' := [(0, .ref a0), (1, .int i1), (2, .int i2), (3, .int (0 : Int32)), (4, .int (0 : Int32)), (5, .int i1)]) dX9_chain_25  (by decide) rfl ?_
        refine e_iconst (v := (0 : Int32)) dX9_chain_27 (by decide) ?_
        refine e_istore (L' := [(0, .ref a0), (1, .int i1), (2, .int i2), (3, .int (0 : Int32)), (4, .int (0 : Int32)), (5, .int i1), (6, .int (0 : Int32))]) dX9_chain_28  (by decide) rfl ?_
        refine s_pick (L' := [(0, .ref a0), (1, .int i1), (2, .int i2), (3, .int (0 : Int32)), (4, .int (0 : Int32)), (5, .int i1), (6, .int (0 : Int32))]) [0, 1, 2, 3, 4, 5, 6] rfl ?_
        exact v_X9_chain_30 d h_a0 h
      · rw [if_neg c29] at h
        refine e_iconst (v := (-1 : Int32)) dX9_chain_17 (by decide) ?_
        obtain rfl := Option.some.inj h
        exact s_ret rfl ⟨_, rfl, rfl⟩ dX9_chain_18
abbrev yy_X9_everybody : mm_Y := (yX9_everybody, cX9_everybody, 1, (some .int))
theorem dX9_everybody_0 : decode cX9_everybody 0 = .ok (.iconst 1, 1) := by decide +kernel
theorem dX9_everybody_1 : decode cX9_everybody 1 = .ok (.aload_n 0, 1) := by decide +kernel
theorem dX9_everybody_2 : decode cX9_everybody 2 = .ok (.getfield 50, 3) := by decide +kernel
theorem dX9_everybody_5 : decode cX9_everybody 5 = .ok (.getfield 71, 3) := by decide +kernel
theorem dX9_everybody_8 : decode cX9_everybody 8 = .ok (.getfield 128, 3) := by decide +kernel
theorem dX9_everybody_11 : decode cX9_everybody 11 = .ok (.ishl, 1) := by decide +kernel
theorem dX9_everybody_12 : decode cX9_everybody 12 = .ok (.iconst 1, 1) := by decide +kernel
theorem dX9_everybody_13 : decode cX9_everybody 13 = .ok (.isub, 1) := by decide +kernel
theorem dX9_everybody_14 : decode cX9_everybody 14 = .ok (.ireturn, 1) := by decide +kernel
def f_X9_everybody (a0 : Nat) (σ : mm_S) : Option (Int32 × mm_S) :=
    some ((((1 : Int32) <<< ((σ.1 (26 + 1) 3) &&& 31)) - (1 : Int32)), σ)
theorem v_X9_everybody {g : mm_G} (d : Nat) {a0 : Nat} {σ : mm_S} {res : Int32 × mm_S} (h_a0 : (mm_K a0).1 = 9) (h : f_X9_everybody a0 σ = some res) : SM g (d + 0) yy_X9_everybody [.ref a0] σ (.int res.1) res.2 := by
  refine s_of (by decide) (Nat.le_of_ble_eq_true rfl) (L := [(0, .ref a0)]) rfl ?_
  unfold f_X9_everybody at h
  refine e_iconst (v := (1 : Int32)) dX9_everybody_0 (by decide) ?_
  refine e_aload_n 0 dX9_everybody_1 rfl rfl ?_
  refine s_getr dX9_everybody_2 fl_RX9_50 h_a0 (r_9_5 h_a0).1 ?_
  refine s_getr dX9_everybody_5 fl_RX9_71 (ka_1 (r_9_5 (w := 0) h_a0).2) (r_8_0 (ka_1 (r_9_5 (w := 0) h_a0).2)).1 ?_
  refine s_geti dX9_everybody_8 fl_RX9_128 (ka_1 (r_8_0 (w := 0) (ka_1 (r_9_5 (w := 0) h_a0).2)).2) ?_
  refine e_ishl dX9_everybody_11 ?_
  refine e_iconst (v := (1 : Int32)) dX9_everybody_12 (by decide) ?_
  refine e_isub dX9_everybody_13 ?_
  obtain rfl := Option.some.inj h
  exact s_ret rfl ⟨_, rfl, rfl⟩ dX9_everybody_14
abbrev yy_X9_lonely : mm_Y := (yX9_lonely, cX9_lonely, 1, (some .int))
theorem dX9_lonely_0 : decode cX9_lonely 0 = .ok (.aload_n 0, 1) := by decide +kernel
theorem dX9_lonely_1 : decode cX9_lonely 1 = .ok (.getfield 50, 3) := by decide +kernel
theorem dX9_lonely_4 : decode cX9_lonely 4 = .ok (.getfield 71, 3) := by decide +kernel
theorem dX9_lonely_7 : decode cX9_lonely 7 = .ok (.getfield 188, 3) := by decide +kernel
theorem dX9_lonely_10 : decode cX9_lonely 10 = .ok (.ifCond .ne 5, 3) := by decide +kernel
theorem dX9_lonely_13 : decode cX9_lonely 13 = .ok (.iconst (-1), 1) := by decide +kernel
theorem dX9_lonely_14 : decode cX9_lonely 14 = .ok (.ireturn, 1) := by decide +kernel
theorem dX9_lonely_15 : decode cX9_lonely 15 = .ok (.aload_n 0, 1) := by decide +kernel
theorem dX9_lonely_16 : decode cX9_lonely 16 = .ok (.invokevirtual 216, 3) := by decide +kernel
theorem dX9_lonely_19 : decode cX9_lonely 19 = .ok (.aload_n 0, 1) := by decide +kernel
theorem dX9_lonely_20 : decode cX9_lonely 20 = .ok (.getfield 50, 3) := by decide +kernel
theorem dX9_lonely_23 : decode cX9_lonely 23 = .ok (.getfield 107, 3) := by decide +kernel
theorem dX9_lonely_26 : decode cX9_lonely 26 = .ok (.invokevirtual 220, 3) := by decide +kernel
theorem dX9_lonely_29 : decode cX9_lonely 29 = .ok (.iconst (-1), 1) := by decide +kernel
theorem dX9_lonely_30 : decode cX9_lonely 30 = .ok (.ixor, 1) := by decide +kernel
theorem dX9_lonely_31 : decode cX9_lonely 31 = .ok (.iand, 1) := by decide +kernel
theorem dX9_lonely_32 : decode cX9_lonely 32 = .ok (.ireturn, 1) := by decide +kernel
def f_X9_lonely (a0 : Nat) (σ : mm_S) : Option (Int32 × mm_S) :=
    if (σ.1 (26 + 1) 0) = 0 then
      some ((-1 : Int32), σ)
    else
      bd (f_X9_everybody a0 σ) fun r11 σ10 =>
      bd (f_X2_sought (26 + 5) σ10) fun r14 σ13 =>
      some ((r11 &&& (r14 ^^^ (-1 : Int32))), σ13)
theorem v_X9_lonely {g : mm_G} (d : Nat) {a0 : Nat} {σ : mm_S} {res : Int32 × mm_S} (h_a0 : (mm_K a0).1 = 9) (h : f_X9_lonely a0 σ = some res) : SM g (d + 1) yy_X9_lonely [.ref a0] σ (.int res.1) res.2 := by
  refine s_of (by decide) (Nat.le_of_ble_eq_true rfl) (L := [(0, .ref a0)]) rfl ?_
  unfold f_X9_lonely at h
  refine e_aload_n 0 dX9_lonely_0 rfl rfl ?_
  refine s_getr dX9_lonely_1 fl_RX9_50 h_a0 (r_9_5 h_a0).1 ?_
  refine s_getr dX9_lonely_4 fl_RX9_71 (ka_1 (r_9_5 (w := 0) h_a0).2) (r_8_0 (ka_1 (r_9_5 (w := 0) h_a0).2)).1 ?_
  refine s_geti dX9_lonely_7 fl_RX9_188 (ka_1 (r_8_0 (w := 0) (ka_1 (r_9_5 (w := 0) h_a0).2)).2) ?_
  refine e_if_ne 15 dX9_lonely_10 (by decide) (fun c8 => ?_) (fun c8 => ?_)
  · rw [if_neg c8] at h
    refine e_aload_n 0 dX9_lonely_15 rfl rfl ?_
    obtain ⟨r11, σ10, q9, h⟩ := bd_some h
    refine s_callVi [] dX9_lonely_16 ml_RX9_216 h_a0 ⟨_, rfl, by decide⟩ rfl (v_X9_everybody (d + 0) h_a0 q9) (Nat.le_of_ble_eq_true rfl) ?_
    refine e_aload_n 0 dX9_lonely_19 rfl rfl ?_
    refine s_getr dX9_lonely_20 fl_RX9_50 h_a0 (r_9_5 h_a0).1 ?_
    refine s_getr dX9_lonely_23 fl_RX9_107 (ka_1 (r_9_5 (w := 0) h_a0).2) (r_8_1 (ka_1 (r_9_5 (w := 0) h_a0).2)).1 ?_
    obtain ⟨r14, σ13, q12, h⟩ := bd_some h
    refine s_callVi [] dX9_lonely_26 ml_RX9_220 (ka_1 (r_8_1 (w := 0) (ka_1 (r_9_5 (w := 0) h_a0).2)).2) ⟨_, rfl, by decide⟩ rfl (v_X2_sought (d + 0) (ka_1 (r_8_1 (w := 0) (ka_1 (r_9_5 (w := 0) h_a0).2)).2) q12) (Nat.le_of_ble_eq_true rfl) ?_
    refine e_iconst (v := (-1 : Int32)) dX9_lonely_29 (by decide) ?_
    refine e_ixor dX9_lonely_30 ?_
    refine e_iand dX9_lonely_31 ?_
    obtain rfl := Option.some.inj h
    exact s_ret rfl ⟨_, rfl, rfl⟩ dX9_lonely_32
  · rw [if_pos c8] at h
    refine e_iconst (v := (-1 : Int32)) dX9_lonely_13 (by decide) ?_
    obtain rfl := Option.some.inj h
    exact s_ret rfl ⟨_, rfl, rfl⟩ dX9_lonely_14
abbrev yy_X9_leastOther : mm_Y := (yX9_leastOther, cX9_leastOther, 7, (some .int))
theorem dX9_leastOther_0 : decode cX9_leastOther 0 = .ok (.iconst 0, 1) := by decide +kernel
theorem dX9_leastOther_1 : decode cX9_leastOther 1 = .ok (.istore 4, 2) := by decide +kernel
theorem dX9_leastOther_3 : decode cX9_leastOther 3 = .ok (.iload 4, 2) := by decide +kernel
theorem dX9_leastOther_5 : decode cX9_leastOther 5 = .ok (.aload_n 0, 1) := by decide +kernel
theorem dX9_leastOther_6 : decode cX9_leastOther 6 = .ok (.getfield 50, 3) := by decide +kernel
theorem dX9_leastOther_9 : decode cX9_leastOther 9 = .ok (.getfield 71, 3) := by decide +kernel
theorem dX9_leastOther_12 : decode cX9_leastOther 12 = .ok (.getfield 128, 3) := by decide +kernel
theorem dX9_leastOther_15 : decode cX9_leastOther 15 = .ok (.if_icmp .ge 72, 3) := by decide +kernel
theorem dX9_leastOther_18 : decode cX9_leastOther 18 = .ok (.iload 4, 2) := by decide +kernel
theorem dX9_leastOther_20 : decode cX9_leastOther 20 = .ok (.iload_n 1, 1) := by decide +kernel
theorem dX9_leastOther_21 : decode cX9_leastOther 21 = .ok (.if_icmp .eq 17, 3) := by decide +kernel
theorem dX9_leastOther_24 : decode cX9_leastOther 24 = .ok (.iload_n 2, 1) := by decide +kernel
theorem dX9_leastOther_25 : decode cX9_leastOther 25 = .ok (.iload 4, 2) := by decide +kernel
theorem dX9_leastOther_27 : decode cX9_leastOther 27 = .ok (.ishr, 1) := by decide +kernel
theorem dX9_leastOther_28 : decode cX9_leastOther 28 = .ok (.iconst 1, 1) := by decide +kernel
theorem dX9_leastOther_29 : decode cX9_leastOther 29 = .ok (.iand, 1) := by decide +kernel
theorem dX9_leastOther_30 : decode cX9_leastOther 30 = .ok (.iconst 1, 1) := by decide +kernel
theorem dX9_leastOther_31 : decode cX9_leastOther 31 = .ok (.if_icmp .ne 7, 3) := by decide +kernel
theorem dX9_leastOther_34 : decode cX9_leastOther 34 = .ok (.iconst 1, 1) := by decide +kernel
theorem dX9_leastOther_35 : decode cX9_leastOther 35 = .ok (.goto 4, 3) := by decide +kernel
theorem dX9_leastOther_38 : decode cX9_leastOther 38 = .ok (.iconst 0, 1) := by decide +kernel
theorem dX9_leastOther_39 : decode cX9_leastOther 39 = .ok (.istore 5, 2) := by decide +kernel
theorem dX9_leastOther_41 : decode cX9_leastOther 41 = .ok (.iload_n 3, 1) := by decide +kernel
theorem dX9_leastOther_42 : decode cX9_leastOther 42 = .ok (.invokestatic 223, 3) := by decide +kernel
theorem dX9_leastOther_45 : decode cX9_leastOther 45 = .ok (.iconst 1, 1) := by decide +kernel
theorem dX9_leastOther_46 : decode cX9_leastOther 46 = .ok (.if_icmp .ne 19, 3) := by decide +kernel
theorem dX9_leastOther_49 : decode cX9_leastOther 49 = .ok (.iload_n 2, 1) := by decide +kernel
theorem dX9_leastOther_50 : decode cX9_leastOther 50 = .ok (.iconst 1, 1) := by decide +kernel
theorem dX9_leastOther_51 : decode cX9_leastOther 51 = .ok (.iload 4, 2) := by decide +kernel
theorem dX9_leastOther_53 : decode cX9_leastOther 53 = .ok (.ishl, 1) := by decide +kernel
theorem dX9_leastOther_54 : decode cX9_leastOther 54 = .ok (.iconst (-1), 1) := by decide +kernel
theorem dX9_leastOther_55 : decode cX9_leastOther 55 = .ok (.ixor, 1) := by decide +kernel
theorem dX9_leastOther_56 : decode cX9_leastOther 56 = .ok (.iand, 1) := by decide +kernel
theorem dX9_leastOther_57 : decode cX9_leastOther 57 = .ok (.iload_n 3, 1) := by decide +kernel
theorem dX9_leastOther_58 : decode cX9_leastOther 58 = .ok (.if_icmp .ne 7, 3) := by decide +kernel
theorem dX9_leastOther_61 : decode cX9_leastOther 61 = .ok (.iconst 1, 1) := by decide +kernel
theorem dX9_leastOther_62 : decode cX9_leastOther 62 = .ok (.goto 4, 3) := by decide +kernel
theorem dX9_leastOther_65 : decode cX9_leastOther 65 = .ok (.iconst 0, 1) := by decide +kernel
theorem dX9_leastOther_66 : decode cX9_leastOther 66 = .ok (.istore 6, 2) := by decide +kernel
theorem dX9_leastOther_68 : decode cX9_leastOther 68 = .ok (.iload 5, 2) := by decide +kernel
theorem dX9_leastOther_70 : decode cX9_leastOther 70 = .ok (.ifCond .eq 11, 3) := by decide +kernel
theorem dX9_leastOther_73 : decode cX9_leastOther 73 = .ok (.iload 6, 2) := by decide +kernel
theorem dX9_leastOther_75 : decode cX9_leastOther 75 = .ok (.ifCond .ne 6, 3) := by decide +kernel
theorem dX9_leastOther_78 : decode cX9_leastOther 78 = .ok (.iload 4, 2) := by decide +kernel
theorem dX9_leastOther_80 : decode cX9_leastOther 80 = .ok (.ireturn, 1) := by decide +kernel
theorem dX9_leastOther_81 : decode cX9_leastOther 81 = .ok (.iinc 4 1, 3) := by decide +kernel
theorem dX9_leastOther_84 : decode cX9_leastOther 84 = .ok (.goto (-81), 3) := by decide +kernel
theorem dX9_leastOther_87 : decode cX9_leastOther 87 = .ok (.iconst (-1), 1) := by decide +kernel
theorem dX9_leastOther_88 : decode cX9_leastOther 88 = .ok (.ireturn, 1) := by decide +kernel
def f_X9_leastOther_66 (k3 : (Int32) → mm_S → Option (Int32 × mm_S)) (a0 : Nat) (i1 : Int32) (i2 : Int32) (i3 : Int32) (i4 : Int32) (i5 : Int32) (s0 : Int32) (σ : mm_S) : Option (Int32 × mm_S) :=
    if i5 = 0 then
      lt (i4 + Int32.ofInt (1)) fun x2 =>
      k3 x2 σ
    else
      if s0 = 0 then
        some (i4, σ)
      else
        lt (i4 + Int32.ofInt (1)) fun x5 =>
        k3 x5 σ
theorem v_X9_leastOther_66 {g : mm_G} (d : Nat) {k3 : (Int32) → mm_S → Option (Int32 × mm_S)} {a0 : Nat} {i1 : Int32} {i2 : Int32} {i3 : Int32} {i4 : Int32} {i5 : Int32} {s0 : Int32} {σ : mm_S} {res : Int32 × mm_S} (H3 : ∀ v σ, k3 v σ = some res → SV g (d + 1) yy_X9_leastOther 3 [(0, .ref a0), (1, .int i1), (2, .int i2), (3, .int i3), (4, .int v)] [] σ (.int res.1) res.2) (h_a0 : (mm_K a0).1 = 9) (h : f_X9_leastOther_66 k3 a0 i1 i2 i3 i4 i5 s0 σ = some res) : SV g (d + 1) yy_X9_leastOther 66 [(0, .ref a0), (1, .int i1), (2, .int i2), (3, .int i3), (4, .int i4), (5, .int i5)] [.int s0] σ (.int res.1) res.2 := by
  unfold f_X9_leastOther_66 at h
  refine e_istore (L' := [(0, .ref a0), (1, .int i1), (2, .int i2), (3, .int i3), (4, .int i4), (5, .int i5), (6, .int s0)]) dX9_leastOther_66  (by decide) rfl ?_
  refine e_iload 5 dX9_leastOther_68  rfl ?_
  refine e_if_eq 81 dX9_leastOther_70 (by decide) (fun c1 => ?_) (fun c1 => ?_)
  · rw [if_pos c1] at h
    obtain ⟨x2, q3, h⟩ := lt_some h
    refine e_iinc (v := x2) (L' := [(0, .ref a0), (1, .int i1), (2, .int i2), (3, .int i3), (4, .int x2), (5, .int i5), (6, .int s0)]) 4 dX9_leastOther_81 rfl q3.symm (by decide) rfl ?_
    refine e_goto 3 dX9_leastOther_84 (by decide) ?_
    refine s_pick (L' := [(0, .ref a0), (1, .int i1), (2, .int i2), (3, .int i3), (4, .int x2)]) [0, 1, 2, 3, 4] rfl ?_
    exact H3 x2 σ h
  · rw [if_neg c1] at h
    refine e_iload 6 dX9_leastOther_73  rfl ?_
    refine e_if_ne 81 dX9_leastOther_75 (by decide) (fun c4 => ?_) (fun c4 => ?_)
    · rw [if_neg c4] at h
      obtain ⟨x5, q6, h⟩ := lt_some h
      refine e_iinc (v := x5) (L' := [(0, .ref a0), (1, .int i1), (2, .int i2), (3, .int i3), (4, .int x5), (5, .int i5), (6, .int s0)]) 4 dX9_leastOther_81 rfl q6.symm (by decide) rfl ?_
      refine e_goto 3 dX9_leastOther_84 (by decide) ?_
      refine s_pick (L' := [(0, .ref a0), (1, .int i1), (2, .int i2), (3, .int i3), (4, .int x5)]) [0, 1, 2, 3, 4] rfl ?_
      exact H3 x5 σ h
    · rw [if_pos c4] at h
      refine e_iload 4 dX9_leastOther_78  rfl ?_
      obtain rfl := Option.some.inj h
      exact s_ret rfl ⟨_, rfl, rfl⟩ dX9_leastOther_80
def f_X9_leastOther_39 (k3 : (Int32) → mm_S → Option (Int32 × mm_S)) (a0 : Nat) (i1 : Int32) (i2 : Int32) (i3 : Int32) (i4 : Int32) (s0 : Int32) (σ : mm_S) : Option (Int32 × mm_S) :=
    bd (f_J6_bitCount_0f7a4 i3 σ) fun r9 σ8 =>
    if r9 = (1 : Int32) then
      if (i2 &&& (((1 : Int32) <<< (i4 &&& 31)) ^^^ (-1 : Int32))) = i3 then
        f_X9_leastOther_66 k3 a0 i1 i2 i3 i4 s0 (1 : Int32) σ8
      else
        f_X9_leastOther_66 k3 a0 i1 i2 i3 i4 s0 (0 : Int32) σ8
    else
      f_X9_leastOther_66 k3 a0 i1 i2 i3 i4 s0 (0 : Int32) σ8
theorem v_X9_leastOther_39 {g : mm_G} (d : Nat) {k3 : (Int32) → mm_S → Option (Int32 × mm_S)} {a0 : Nat} {i1 : Int32} {i2 : Int32} {i3 : Int32} {i4 : Int32} {s0 : Int32} {σ : mm_S} {res : Int32 × mm_S} (H3 : ∀ v σ, k3 v σ = some res → SV g (d + 1) yy_X9_leastOther 3 [(0, .ref a0), (1, .int i1), (2, .int i2), (3, .int i3), (4, .int v)] [] σ (.int res.1) res.2) (h_a0 : (mm_K a0).1 = 9) (h : f_X9_leastOther_39 k3 a0 i1 i2 i3 i4 s0 σ = some res) : SV g (d + 1) yy_X9_leastOther 39 [(0, .ref a0), (1, .int i1), (2, .int i2), (3, .int i3), (4, .int i4)] [.int s0] σ (.int res.1) res.2 := by
  unfold f_X9_leastOther_39 at h
  refine e_istore (L' := [(0, .ref a0), (1, .int i1), (2, .int i2), (3, .int i3), (4, .int i4), (5, .int s0)]) dX9_leastOther_39  (by decide) rfl ?_
  refine e_iload_n 3 dX9_leastOther_41 rfl rfl ?_
  obtain ⟨r9, σ8, q7, h⟩ := bd_some h
  refine s_callSi [.int i3] dX9_leastOther_42 ml_RX9_223 ⟨_, rfl, by decide⟩ rfl (v_J6_bitCount_0f7a4 (d + 0)  q7) (Nat.le_of_ble_eq_true rfl) ?_
  refine e_iconst (v := (1 : Int32)) dX9_leastOther_45 (by decide) ?_
  refine e_icmp_ne 65 dX9_leastOther_46 (by decide) (fun c10 => ?_) (fun c10 => ?_)
  · rw [if_neg c10] at h
    refine e_iconst (v := (0 : Int32)) dX9_leastOther_65 (by decide) ?_
    refine s_pick (L' := [(0, .ref a0), (1, .int i1), (2, .int i2), (3, .int i3), (4, .int i4), (5, .int s0)]) [0, 1, 2, 3, 4, 5] rfl ?_
    exact v_X9_leastOther_66 d H3 h_a0 h
  · rw [if_pos c10] at h
    refine e_iload_n 2 dX9_leastOther_49 rfl rfl ?_
    refine e_iconst (v := (1 : Int32)) dX9_leastOther_50 (by decide) ?_
    refine e_iload 4 dX9_leastOther_51  rfl ?_
    refine e_ishl dX9_leastOther_53 ?_
    refine e_iconst (v := (-1 : Int32)) dX9_leastOther_54 (by decide) ?_
    refine e_ixor dX9_leastOther_55 ?_
    refine e_iand dX9_leastOther_56 ?_
    refine e_iload_n 3 dX9_leastOther_57 rfl rfl ?_
    refine e_icmp_ne 65 dX9_leastOther_58 (by decide) (fun c11 => ?_) (fun c11 => ?_)
    · rw [if_neg c11] at h
      refine e_iconst (v := (0 : Int32)) dX9_leastOther_65 (by decide) ?_
      refine s_pick (L' := [(0, .ref a0), (1, .int i1), (2, .int i2), (3, .int i3), (4, .int i4), (5, .int s0)]) [0, 1, 2, 3, 4, 5] rfl ?_
      exact v_X9_leastOther_66 d H3 h_a0 h
    · rw [if_pos c11] at h
      refine e_iconst (v := (1 : Int32)) dX9_leastOther_61 (by decide) ?_
      refine e_goto 66 dX9_leastOther_62 (by decide) ?_
      refine s_pick (L' := [(0, .ref a0), (1, .int i1), (2, .int i2), (3, .int i3), (4, .int i4), (5, .int s0)]) [0, 1, 2, 3, 4, 5] rfl ?_
      exact v_X9_leastOther_66 d H3 h_a0 h
def f_X9_leastOther_3 (a0 : Nat) (i1 : Int32) (i2 : Int32) (i3 : Int32) (i4 : Int32) (σ : mm_S) : Option (Int32 × mm_S) :=
  lp lpN (fun (k3 : (Int32) → mm_S → Option (Int32 × mm_S)) (v : Int32) (σ : mm_S) =>
    if (σ.1 (26 + 1) 3) ≤ v then
      some ((-1 : Int32), σ)
    else
      if v = i1 then
        f_X9_leastOther_39 k3 a0 i1 i2 i3 v (0 : Int32) σ
      else
        if ((i2 >>> (v &&& 31)) &&& (1 : Int32)) = (1 : Int32) then
          f_X9_leastOther_39 k3 a0 i1 i2 i3 v (1 : Int32) σ
        else
          f_X9_leastOther_39 k3 a0 i1 i2 i3 v (0 : Int32) σ) i4 σ
theorem v_X9_leastOther_3 {g : mm_G} (d : Nat) {a0 : Nat} {i1 : Int32} {i2 : Int32} {i3 : Int32} {i4 : Int32} {σ : mm_S} {res : Int32 × mm_S}  (h_a0 : (mm_K a0).1 = 9) (h : f_X9_leastOther_3 a0 i1 i2 i3 i4 σ = some res) : SV g (d + 1) yy_X9_leastOther 3 [(0, .ref a0), (1, .int i1), (2, .int i2), (3, .int i3), (4, .int i4)] [] σ (.int res.1) res.2 := by
  unfold f_X9_leastOther_3 at h
  refine lp_ind (P := fun v σ => SV g (d + 1) yy_X9_leastOther 3 [(0, .ref a0), (1, .int i1), (2, .int i2), (3, .int i3), (4, .int v)] [] σ (.int res.1) res.2) (fun k3 H3 v σ h => ?_) _ i4 σ h
  refine e_iload 4 dX9_leastOther_3  rfl ?_
  refine e_aload_n 0 dX9_leastOther_5 rfl rfl ?_
  refine s_getr dX9_leastOther_6 fl_RX9_50 h_a0 (r_9_5 h_a0).1 ?_
  refine s_getr dX9_leastOther_9 fl_RX9_71 (ka_1 (r_9_5 (w := 0) h_a0).2) (r_8_0 (ka_1 (r_9_5 (w := 0) h_a0).2)).1 ?_
  refine s_geti dX9_leastOther_12 fl_RX9_128 (ka_1 (r_8_0 (w := 0) (ka_1 (r_9_5 (w := 0) h_a0).2)).2) ?_
  refine e_icmp_ge 87 dX9_leastOther_15 (by decide) (fun c12 => ?_) (fun c12 => ?_)
  · rw [if_pos c12] at h
    refine e_iconst (v := (-1 : Int32)) dX9_leastOther_87 (by decide) ?_
    obtain rfl := Option.some.inj h
    exact s_ret rfl ⟨_, rfl, rfl⟩ dX9_leastOther_88
  · rw [if_neg c12] at h
    refine e_iload 4 dX9_leastOther_18  rfl ?_
    refine e_iload_n 1 dX9_leastOther_20 rfl rfl ?_
    refine e_icmp_eq 38 dX9_leastOther_21 (by decide) (fun c13 => ?_) (fun c13 => ?_)
    · rw [if_pos c13] at h
      refine e_iconst (v := (0 : Int32)) dX9_leastOther_38 (by decide) ?_
      refine s_pick (L' := [(0, .ref a0), (1, .int i1), (2, .int i2), (3, .int i3), (4, .int v)]) [0, 1, 2, 3, 4] rfl ?_
      exact v_X9_leastOther_39 d H3 h_a0 h
    · rw [if_neg c13] at h
      refine e_iload_n 2 dX9_leastOther_24 rfl rfl ?_
      refine e_iload 4 dX9_leastOther_25  rfl ?_
      refine e_ishr dX9_leastOther_27 ?_
      refine e_iconst (v := (1 : Int32)) dX9_leastOther_28 (by decide) ?_
      refine e_iand dX9_leastOther_29 ?_
      refine e_iconst (v := (1 : Int32)) dX9_leastOther_30 (by decide) ?_
      refine e_icmp_ne 38 dX9_leastOther_31 (by decide) (fun c14 => ?_) (fun c14 => ?_)
      · rw [if_neg c14] at h
        refine e_iconst (v := (0 : Int32)) dX9_leastOther_38 (by decide) ?_
        refine s_pick (L' := [(0, .ref a0), (1, .int i1), (2, .int i2), (3, .int i3), (4, .int v)]) [0, 1, 2, 3, 4] rfl ?_
        exact v_X9_leastOther_39 d H3 h_a0 h
      · rw [if_pos c14] at h
        refine e_iconst (v := (1 : Int32)) dX9_leastOther_34 (by decide) ?_
        refine e_goto 39 dX9_leastOther_35 (by decide) ?_
        refine s_pick (L' := [(0, .ref a0), (1, .int i1), (2, .int i2), (3, .int i3), (4, .int v)]) [0, 1, 2, 3, 4] rfl ?_
        exact v_X9_leastOther_39 d H3 h_a0 h
def f_X9_leastOther (a0 : Nat) (i1 : Int32) (i2 : Int32) (i3 : Int32) (σ : mm_S) : Option (Int32 × mm_S) :=
    f_X9_leastOther_3 a0 i1 i2 i3 (0 : Int32) σ
theorem v_X9_leastOther {g : mm_G} (d : Nat) {a0 : Nat} {i1 : Int32} {i2 : Int32} {i3 : Int32} {σ : mm_S} {res : Int32 × mm_S} (h_a0 : (mm_K a0).1 = 9) (h : f_X9_leastOther a0 i1 i2 i3 σ = some res) : SM g (d + 1) yy_X9_leastOther [.ref a0, .int i1, .int i2, .int i3] σ (.int res.1) res.2 := by
  refine s_of (by decide) (Nat.le_of_ble_eq_true rfl) (L := [(0, .ref a0), (1, .int i1), (2, .int i2), (3, .int i3)]) rfl ?_
  unfold f_X9_leastOther at h
  refine e_iconst (v := (0 : Int32)) dX9_leastOther_0 (by decide) ?_
  refine e_istore (L' := [(0, .ref a0), (1, .int i1), (2, .int i2), (3, .int i3), (4, .int (0 : Int32))]) dX9_leastOther_1  (by decide) rfl ?_
  refine s_pick (L' := [(0, .ref a0), (1, .int i1), (2, .int i2), (3, .int i3), (4, .int (0 : Int32))]) [0, 1, 2, 3, 4] rfl ?_
  exact v_X9_leastOther_3 d h_a0 h
abbrev yy_X9_fillRow : mm_Y := (yX9_fillRow, cX9_fillRow, 8, none)
theorem dX9_fillRow_0 : decode cX9_fillRow 0 = .ok (.aload_n 0, 1) := by decide +kernel
theorem dX9_fillRow_1 : decode cX9_fillRow 1 = .ok (.invokevirtual 216, 3) := by decide +kernel
theorem dX9_fillRow_4 : decode cX9_fillRow 4 = .ok (.aload_n 0, 1) := by decide +kernel
theorem dX9_fillRow_5 : decode cX9_fillRow 5 = .ok (.getfield 50, 3) := by decide +kernel
theorem dX9_fillRow_8 : decode cX9_fillRow 8 = .ok (.getfield 107, 3) := by decide +kernel
theorem dX9_fillRow_11 : decode cX9_fillRow 11 = .ok (.getfield 174, 3) := by decide +kernel
theorem dX9_fillRow_14 : decode cX9_fillRow 14 = .ok (.iconst (-1), 1) := by decide +kernel
theorem dX9_fillRow_15 : decode cX9_fillRow 15 = .ok (.ixor, 1) := by decide +kernel
theorem dX9_fillRow_16 : decode cX9_fillRow 16 = .ok (.iand, 1) := by decide +kernel
theorem dX9_fillRow_17 : decode cX9_fillRow 17 = .ok (.istore_n 2, 1) := by decide +kernel
theorem dX9_fillRow_18 : decode cX9_fillRow 18 = .ok (.aload_n 0, 1) := by decide +kernel
theorem dX9_fillRow_19 : decode cX9_fillRow 19 = .ok (.invokevirtual 216, 3) := by decide +kernel
theorem dX9_fillRow_22 : decode cX9_fillRow 22 = .ok (.istore_n 3, 1) := by decide +kernel
theorem dX9_fillRow_23 : decode cX9_fillRow 23 = .ok (.iload_n 1, 1) := by decide +kernel
theorem dX9_fillRow_24 : decode cX9_fillRow 24 = .ok (.istore 4, 2) := by decide +kernel
theorem dX9_fillRow_26 : decode cX9_fillRow 26 = .ok (.iconst 0, 1) := by decide +kernel
theorem dX9_fillRow_27 : decode cX9_fillRow 27 = .ok (.istore 5, 2) := by decide +kernel
theorem dX9_fillRow_29 : decode cX9_fillRow 29 = .ok (.iload 5, 2) := by decide +kernel
theorem dX9_fillRow_31 : decode cX9_fillRow 31 = .ok (.aload_n 0, 1) := by decide +kernel
theorem dX9_fillRow_32 : decode cX9_fillRow 32 = .ok (.getfield 50, 3) := by decide +kernel
theorem dX9_fillRow_35 : decode cX9_fillRow 35 = .ok (.getfield 71, 3) := by decide +kernel
theorem dX9_fillRow_38 : decode cX9_fillRow 38 = .ok (.getfield 128, 3) := by decide +kernel
theorem dX9_fillRow_41 : decode cX9_fillRow 41 = .ok (.if_icmp .ge 73, 3) := by decide +kernel
theorem dX9_fillRow_44 : decode cX9_fillRow 44 = .ok (.iload_n 2, 1) := by decide +kernel
theorem dX9_fillRow_45 : decode cX9_fillRow 45 = .ok (.iconst 2, 1) := by decide +kernel
theorem dX9_fillRow_46 : decode cX9_fillRow 46 = .ok (.iload 5, 2) := by decide +kernel
theorem dX9_fillRow_48 : decode cX9_fillRow 48 = .ok (.ishl, 1) := by decide +kernel
theorem dX9_fillRow_49 : decode cX9_fillRow 49 = .ok (.ineg, 1) := by decide +kernel
theorem dX9_fillRow_50 : decode cX9_fillRow 50 = .ok (.iand, 1) := by decide +kernel
theorem dX9_fillRow_51 : decode cX9_fillRow 51 = .ok (.istore 6, 2) := by decide +kernel
theorem dX9_fillRow_53 : decode cX9_fillRow 53 = .ok (.aload_n 0, 1) := by decide +kernel
theorem dX9_fillRow_54 : decode cX9_fillRow 54 = .ok (.getfield 81, 3) := by decide +kernel
theorem dX9_fillRow_57 : decode cX9_fillRow 57 = .ok (.iload 5, 2) := by decide +kernel
theorem dX9_fillRow_59 : decode cX9_fillRow 59 = .ok (.iconst (-1), 1) := by decide +kernel
theorem dX9_fillRow_60 : decode cX9_fillRow 60 = .ok (.iastore, 1) := by decide +kernel
theorem dX9_fillRow_61 : decode cX9_fillRow 61 = .ok (.iload 4, 2) := by decide +kernel
theorem dX9_fillRow_63 : decode cX9_fillRow 63 = .ok (.iload 6, 2) := by decide +kernel
theorem dX9_fillRow_65 : decode cX9_fillRow 65 = .ok (.invokestatic 223, 3) := by decide +kernel
theorem dX9_fillRow_68 : decode cX9_fillRow 68 = .ok (.if_icmp .le 40, 3) := by decide +kernel
theorem dX9_fillRow_71 : decode cX9_fillRow 71 = .ok (.aload_n 0, 1) := by decide +kernel
theorem dX9_fillRow_72 : decode cX9_fillRow 72 = .ok (.iload 5, 2) := by decide +kernel
theorem dX9_fillRow_74 : decode cX9_fillRow 74 = .ok (.iload_n 3, 1) := by decide +kernel
theorem dX9_fillRow_75 : decode cX9_fillRow 75 = .ok (.iload 6, 2) := by decide +kernel
theorem dX9_fillRow_77 : decode cX9_fillRow 77 = .ok (.invokevirtual 237, 3) := by decide +kernel
theorem dX9_fillRow_80 : decode cX9_fillRow 80 = .ok (.istore 7, 2) := by decide +kernel
theorem dX9_fillRow_82 : decode cX9_fillRow 82 = .ok (.aload_n 0, 1) := by decide +kernel
theorem dX9_fillRow_83 : decode cX9_fillRow 83 = .ok (.getfield 81, 3) := by decide +kernel
theorem dX9_fillRow_86 : decode cX9_fillRow 86 = .ok (.iload 5, 2) := by decide +kernel
theorem dX9_fillRow_88 : decode cX9_fillRow 88 = .ok (.iload 7, 2) := by decide +kernel
theorem dX9_fillRow_90 : decode cX9_fillRow 90 = .ok (.iastore, 1) := by decide +kernel
theorem dX9_fillRow_91 : decode cX9_fillRow 91 = .ok (.iinc 4 (-1), 3) := by decide +kernel
theorem dX9_fillRow_94 : decode cX9_fillRow 94 = .ok (.iload 7, 2) := by decide +kernel
theorem dX9_fillRow_96 : decode cX9_fillRow 96 = .ok (.ifCond .lt 12, 3) := by decide +kernel
theorem dX9_fillRow_99 : decode cX9_fillRow 99 = .ok (.iload_n 3, 1) := by decide +kernel
theorem dX9_fillRow_100 : decode cX9_fillRow 100 = .ok (.iconst 1, 1) := by decide +kernel
theorem dX9_fillRow_101 : decode cX9_fillRow 101 = .ok (.iload 7, 2) := by decide +kernel
theorem dX9_fillRow_103 : decode cX9_fillRow 103 = .ok (.ishl, 1) := by decide +kernel
theorem dX9_fillRow_104 : decode cX9_fillRow 104 = .ok (.iconst (-1), 1) := by decide +kernel
theorem dX9_fillRow_105 : decode cX9_fillRow 105 = .ok (.ixor, 1) := by decide +kernel
theorem dX9_fillRow_106 : decode cX9_fillRow 106 = .ok (.iand, 1) := by decide +kernel
theorem dX9_fillRow_107 : decode cX9_fillRow 107 = .ok (.istore_n 3, 1) := by decide +kernel
theorem dX9_fillRow_108 : decode cX9_fillRow 108 = .ok (.iinc 5 1, 3) := by decide +kernel
theorem dX9_fillRow_111 : decode cX9_fillRow 111 = .ok (.goto (-82), 3) := by decide +kernel
theorem dX9_fillRow_114 : decode cX9_fillRow 114 = .ok (.return_, 1) := by decide +kernel
def f_X9_fillRow_29 (a0 : Nat) (i2 : Int32) (i3 : Int32) (i4 : Int32) (i5 : Int32) (σ : mm_S) : Option (mm_S) :=
  lp lpN (fun (k29 : (Int32 × Int32 × Int32) → mm_S → Option (mm_S)) (v : Int32 × Int32 × Int32) (σ : mm_S) =>
    if (σ.1 (26 + 1) 3) ≤ v.2.2 then
      some σ
    else
      lt ((i2 &&& (-((2 : Int32) <<< (v.2.2 &&& 31))))) fun x2 =>
      gd v.2.2 6 <|
      lt (su_i σ 211 v.2.2.toNatClampNeg (-1 : Int32)) fun σ5 =>
      bd (f_J6_bitCount_0f7a4 x2 σ5) fun r9 σ8 =>
      if v.2.1 ≤ r9 then
        lt (v.2.2 + Int32.ofInt (1)) fun x11 =>
        k29 (v.1, v.2.1, x11) σ8
      else
        bd (f_X9_leastOther a0 v.2.2 v.1 x2 σ8) fun r15 σ14 =>
        gd v.2.2 6 <|
        lt (su_i σ14 211 v.2.2.toNatClampNeg r15) fun σ17 =>
        lt (v.2.1 + Int32.ofInt (-1)) fun x19 =>
        if r15 < 0 then
          lt (v.2.2 + Int32.ofInt (1)) fun x22 =>
          k29 (v.1, x19, x22) σ17
        else
          lt ((v.1 &&& (((1 : Int32) <<< (r15 &&& 31)) ^^^ (-1 : Int32)))) fun x24 =>
          lt (v.2.2 + Int32.ofInt (1)) fun x26 =>
          k29 (x24, x19, x26) σ17) (i3, i4, i5) σ
theorem v_X9_fillRow_29 {g : mm_G} (d : Nat) {a0 : Nat} {i2 : Int32} {i3 : Int32} {i4 : Int32} {i5 : Int32} {σ : mm_S} {res : mm_S}  (h_a0 : (mm_K a0).1 = 9) (h : f_X9_fillRow_29 a0 i2 i3 i4 i5 σ = some res) : SV g (d + 2) yy_X9_fillRow 29 [(0, .ref a0), (2, .int i2), (3, .int i3), (4, .int i4), (5, .int i5)] [] σ .null res := by
  unfold f_X9_fillRow_29 at h
  refine lp_ind (P := fun v σ => SV g (d + 2) yy_X9_fillRow 29 [(0, .ref a0), (2, .int i2), (3, .int v.1), (4, .int v.2.1), (5, .int v.2.2)] [] σ .null res) (fun k29 H29 v σ h => ?_) _ (i3, i4, i5) σ h
  refine e_iload 4 dX9_fillRow_29  rfl ?_
  refine e_aload_n 0 dX9_fillRow_31 rfl rfl ?_
  refine s_getr dX9_fillRow_32 fl_RX9_50 h_a0 (r_9_5 h_a0).1 ?_
  refine s_getr dX9_fillRow_35 fl_RX9_71 (ka_1 (r_9_5 (w := 0) h_a0).2) (r_8_0 (ka_1 (r_9_5 (w := 0) h_a0).2)).1 ?_
  refine s_geti dX9_fillRow_38 fl_RX9_128 (ka_1 (r_8_0 (w := 0) (ka_1 (r_9_5 (w := 0) h_a0).2)).2) ?_
  refine e_icmp_ge 114 dX9_fillRow_41 (by decide) (fun c1 => ?_) (fun c1 => ?_)
  · rw [if_pos c1] at h
    obtain rfl := Option.some.inj h
    exact s_ret rfl rfl dX9_fillRow_114
  · rw [if_neg c1] at h
    refine e_iload_n 1 dX9_fillRow_44 rfl rfl ?_
    refine e_iconst (v := (2 : Int32)) dX9_fillRow_45 (by decide) ?_
    refine e_iload 4 dX9_fillRow_46  rfl ?_
    refine e_ishl dX9_fillRow_48 ?_
    refine e_ineg dX9_fillRow_49 ?_
    refine e_iand dX9_fillRow_50 ?_
    obtain ⟨x2, q3, h⟩ := lt_some h
    refine s_nmi q3 ?_
    refine e_istore (L' := [(0, .ref a0), (2, .int i2), (3, .int v.1), (4, .int v.2.1), (5, .int v.2.2), (6, .int x2)]) dX9_fillRow_51  (by decide) rfl ?_
    refine e_aload_n 0 dX9_fillRow_53 rfl rfl ?_
    refine s_getr dX9_fillRow_54 fl_RX9_81 h_a0 (r_9_10 h_a0).1 ?_
    refine e_iload 4 dX9_fillRow_57  rfl ?_
    refine e_iconst (v := (-1 : Int32)) dX9_fillRow_59 (by decide) ?_
    obtain ⟨q4, h⟩ := gd_some h
    refine s_iast dX9_fillRow_60 (r_9_10 (w := 0) h_a0).2 q4 ?_
    obtain ⟨σ5, q6, h⟩ := lt_some h
    refine s_nms q6 ?_
    refine e_iload 3 dX9_fillRow_61  rfl ?_
    refine e_iload 5 dX9_fillRow_63  rfl ?_
    obtain ⟨r9, σ8, q7, h⟩ := bd_some h
    refine s_callSi [.int x2] dX9_fillRow_65 ml_RX9_223 ⟨_, rfl, by decide⟩ rfl (v_J6_bitCount_0f7a4 (d + 1)  q7) (Nat.le_of_ble_eq_true rfl) ?_
    refine e_icmp_le 108 dX9_fillRow_68 (by decide) (fun c10 => ?_) (fun c10 => ?_)
    · rw [if_pos c10] at h
      obtain ⟨x11, q12, h⟩ := lt_some h
      refine e_iinc (v := x11) (L' := [(0, .ref a0), (2, .int i2), (3, .int v.1), (4, .int v.2.1), (5, .int x11), (6, .int x2)]) 4 dX9_fillRow_108 rfl q12.symm (by decide) rfl ?_
      refine e_goto 29 dX9_fillRow_111 (by decide) ?_
      refine s_pick (L' := [(0, .ref a0), (2, .int i2), (3, .int v.1), (4, .int v.2.1), (5, .int x11)]) [0, 1, 2, 3, 4] rfl ?_
      exact H29 (v.1, v.2.1, x11) σ8 h
    · rw [if_neg c10] at h
      refine e_aload_n 0 dX9_fillRow_71 rfl rfl ?_
      refine e_iload 4 dX9_fillRow_72  rfl ?_
      refine e_iload_n 2 dX9_fillRow_74 rfl rfl ?_
      refine e_iload 5 dX9_fillRow_75  rfl ?_
      obtain ⟨r15, σ14, q13, h⟩ := bd_some h
      refine s_callVi [.int v.2.2, .int v.1, .int x2] dX9_fillRow_77 ml_RX9_237 h_a0 ⟨_, rfl, by decide⟩ rfl (v_X9_leastOther (d + 0) h_a0 q13) (Nat.le_of_ble_eq_true rfl) ?_
      refine e_istore (L' := [(0, .ref a0), (2, .int i2), (3, .int v.1), (4, .int v.2.1), (5, .int v.2.2), (6, .int x2), (7, .int r15)]) dX9_fillRow_80  (by decide) rfl ?_
      refine e_aload_n 0 dX9_fillRow_82 rfl rfl ?_
      refine s_getr dX9_fillRow_83 fl_RX9_81 h_a0 (r_9_10 h_a0).1 ?_
      refine e_iload 4 dX9_fillRow_86  rfl ?_
      refine e_iload 6 dX9_fillRow_88  rfl ?_
      obtain ⟨q16, h⟩ := gd_some h
      refine s_iast dX9_fillRow_90 (r_9_10 (w := 0) h_a0).2 q16 ?_
      obtain ⟨σ17, q18, h⟩ := lt_some h
      refine s_nms q18 ?_
      obtain ⟨x19, q20, h⟩ := lt_some h
      refine e_iinc (v := x19) (L' := [(0, .ref a0), (2, .int i2), (3, .int v.1), (4, .int x19), (5, .int v.2.2), (6, .int x2), (7, .int r15)]) 3 dX9_fillRow_91 rfl q20.symm (by decide) rfl ?_
      refine e_iload 6 dX9_fillRow_94  rfl ?_
      refine e_if_lt 108 dX9_fillRow_96 (by decide) (fun c21 => ?_) (fun c21 => ?_)
      · rw [if_pos c21] at h
        obtain ⟨x22, q23, h⟩ := lt_some h
        refine e_iinc (v := x22) (L' := [(0, .ref a0), (2, .int i2), (3, .int v.1), (4, .int x19), (5, .int x22), (6, .int x2), (7, .int r15)]) 4 dX9_fillRow_108 rfl q23.symm (by decide) rfl ?_
        refine e_goto 29 dX9_fillRow_111 (by decide) ?_
        refine s_pick (L' := [(0, .ref a0), (2, .int i2), (3, .int v.1), (4, .int x19), (5, .int x22)]) [0, 1, 2, 3, 4] rfl ?_
        exact H29 (v.1, x19, x22) σ17 h
      · rw [if_neg c21] at h
        refine e_iload_n 2 dX9_fillRow_99 rfl rfl ?_
        refine e_iconst (v := (1 : Int32)) dX9_fillRow_100 (by decide) ?_
        refine e_iload 6 dX9_fillRow_101  rfl ?_
        refine e_ishl dX9_fillRow_103 ?_
        refine e_iconst (v := (-1 : Int32)) dX9_fillRow_104 (by decide) ?_
        refine e_ixor dX9_fillRow_105 ?_
        refine e_iand dX9_fillRow_106 ?_
        obtain ⟨x24, q25, h⟩ := lt_some h
        refine s_nmi q25 ?_
        refine e_istore_n (L' := [(0, .ref a0), (2, .int i2), (3, .int x24), (4, .int x19), (5, .int v.2.2), (6, .int x2), (7, .int r15)]) dX9_fillRow_107 rfl (by decide) rfl ?_
        obtain ⟨x26, q27, h⟩ := lt_some h
        refine e_iinc (v := x26) (L' := [(0, .ref a0), (2, .int i2), (3, .int x24), (4, .int x19), (5, .int x26), (6, .int x2), (7, .int r15)]) 4 dX9_fillRow_108 rfl q27.symm (by decide) rfl ?_
        refine e_goto 29 dX9_fillRow_111 (by decide) ?_
        refine s_pick (L' := [(0, .ref a0), (2, .int i2), (3, .int x24), (4, .int x19), (5, .int x26)]) [0, 1, 2, 3, 4] rfl ?_
        exact H29 (x24, x19, x26) σ17 h
def f_X9_fillRow (a0 : Nat) (i1 : Int32) (σ : mm_S) : Option (mm_S) :=
    bd (f_X9_everybody a0 σ) fun r38 σ37 =>
    lt ((r38 &&& ((σ37.1 (26 + 5) 1) ^^^ (-1 : Int32)))) fun x39 =>
    bd (f_X9_everybody a0 σ37) fun r43 σ42 =>
    f_X9_fillRow_29 a0 x39 r43 i1 (0 : Int32) σ42
theorem v_X9_fillRow {g : mm_G} (d : Nat) {a0 : Nat} {i1 : Int32} {σ : mm_S} {res : mm_S} (h_a0 : (mm_K a0).1 = 9) (h : f_X9_fillRow a0 i1 σ = some res) : SM g (d + 2) yy_X9_fillRow [.ref a0, .int i1] σ .null res := by
  refine s_of (by decide) (Nat.le_of_ble_eq_true rfl) (L := [(0, .ref a0), (1, .int i1)]) rfl ?_
  unfold f_X9_fillRow at h
  refine e_aload_n 0 dX9_fillRow_0 rfl rfl ?_
  obtain ⟨r38, σ37, q36, h⟩ := bd_some h
  refine s_callVi [] dX9_fillRow_1 ml_RX9_216 h_a0 ⟨_, rfl, by decide⟩ rfl (v_X9_everybody (d + 1) h_a0 q36) (Nat.le_of_ble_eq_true rfl) ?_
  refine e_aload_n 0 dX9_fillRow_4 rfl rfl ?_
  refine s_getr dX9_fillRow_5 fl_RX9_50 h_a0 (r_9_5 h_a0).1 ?_
  refine s_getr dX9_fillRow_8 fl_RX9_107 (ka_1 (r_9_5 (w := 0) h_a0).2) (r_8_1 (ka_1 (r_9_5 (w := 0) h_a0).2)).1 ?_
  refine s_geti dX9_fillRow_11 fl_RX9_174 (ka_1 (r_8_1 (w := 0) (ka_1 (r_9_5 (w := 0) h_a0).2)).2) ?_
  refine e_iconst (v := (-1 : Int32)) dX9_fillRow_14 (by decide) ?_
  refine e_ixor dX9_fillRow_15 ?_
  refine e_iand dX9_fillRow_16 ?_
  obtain ⟨x39, q40, h⟩ := lt_some h
  refine s_nmi q40 ?_
  refine e_istore_n (L' := [(0, .ref a0), (1, .int i1), (2, .int x39)]) dX9_fillRow_17 rfl (by decide) rfl ?_
  refine e_aload_n 0 dX9_fillRow_18 rfl rfl ?_
  obtain ⟨r43, σ42, q41, h⟩ := bd_some h
  refine s_callVi [] dX9_fillRow_19 ml_RX9_216 h_a0 ⟨_, rfl, by decide⟩ rfl (v_X9_everybody (d + 1) h_a0 q41) (Nat.le_of_ble_eq_true rfl) ?_
  refine e_istore_n (L' := [(0, .ref a0), (1, .int i1), (2, .int x39), (3, .int r43)]) dX9_fillRow_22 rfl (by decide) rfl ?_
  refine e_iload_n 1 dX9_fillRow_23 rfl rfl ?_
  refine e_istore (L' := [(0, .ref a0), (1, .int i1), (2, .int x39), (3, .int r43), (4, .int i1)]) dX9_fillRow_24  (by decide) rfl ?_
  refine e_iconst (v := (0 : Int32)) dX9_fillRow_26 (by decide) ?_
  refine e_istore (L' := [(0, .ref a0), (1, .int i1), (2, .int x39), (3, .int r43), (4, .int i1), (5, .int (0 : Int32))]) dX9_fillRow_27  (by decide) rfl ?_
  refine s_pick (L' := [(0, .ref a0), (2, .int x39), (3, .int r43), (4, .int i1), (5, .int (0 : Int32))]) [0, 2, 3, 4, 5] rfl ?_
  exact v_X9_fillRow_29 d h_a0 h
