abbrev yy_X9_bestRow : mm_Y := (yX9_bestRow, cX9_bestRow, 5, (some .int))
theorem dX9_bestRow_0 : decode cX9_bestRow 0 = .ok (.aload_n 0, 1) := by decide +kernel
theorem dX9_bestRow_1 : decode cX9_bestRow 1 = .ok (.getfield 50, 3) := by decide +kernel
theorem dX9_bestRow_4 : decode cX9_bestRow 4 = .ok (.getfield 71, 3) := by decide +kernel
theorem dX9_bestRow_7 : decode cX9_bestRow 7 = .ok (.getfield 188, 3) := by decide +kernel
theorem dX9_bestRow_10 : decode cX9_bestRow 10 = .ok (.ifCond .eq 14, 3) := by decide +kernel
theorem dX9_bestRow_13 : decode cX9_bestRow 13 = .ok (.iload_n 1, 1) := by decide +kernel
theorem dX9_bestRow_14 : decode cX9_bestRow 14 = .ok (.iconst (-1), 1) := by decide +kernel
theorem dX9_bestRow_15 : decode cX9_bestRow 15 = .ok (.if_icmp .lt 9, 3) := by decide +kernel
theorem dX9_bestRow_18 : decode cX9_bestRow 18 = .ok (.iload_n 1, 1) := by decide +kernel
theorem dX9_bestRow_19 : decode cX9_bestRow 19 = .ok (.bipush 6, 2) := by decide +kernel
theorem dX9_bestRow_21 : decode cX9_bestRow 21 = .ok (.if_icmp .lt 6, 3) := by decide +kernel
theorem dX9_bestRow_24 : decode cX9_bestRow 24 = .ok (.bipush (-3), 2) := by decide +kernel
theorem dX9_bestRow_26 : decode cX9_bestRow 26 = .ok (.ireturn, 1) := by decide +kernel
theorem dX9_bestRow_27 : decode cX9_bestRow 27 = .ok (.aload_n 0, 1) := by decide +kernel
theorem dX9_bestRow_28 : decode cX9_bestRow 28 = .ok (.getfield 50, 3) := by decide +kernel
theorem dX9_bestRow_31 : decode cX9_bestRow 31 = .ok (.getfield 71, 3) := by decide +kernel
theorem dX9_bestRow_34 : decode cX9_bestRow 34 = .ok (.getfield 128, 3) := by decide +kernel
theorem dX9_bestRow_37 : decode cX9_bestRow 37 = .ok (.istore_n 2, 1) := by decide +kernel
theorem dX9_bestRow_38 : decode cX9_bestRow 38 = .ok (.aload_n 0, 1) := by decide +kernel
theorem dX9_bestRow_39 : decode cX9_bestRow 39 = .ok (.invokevirtual 216, 3) := by decide +kernel
theorem dX9_bestRow_42 : decode cX9_bestRow 42 = .ok (.aload_n 0, 1) := by decide +kernel
theorem dX9_bestRow_43 : decode cX9_bestRow 43 = .ok (.getfield 50, 3) := by decide +kernel
theorem dX9_bestRow_46 : decode cX9_bestRow 46 = .ok (.getfield 107, 3) := by decide +kernel
theorem dX9_bestRow_49 : decode cX9_bestRow 49 = .ok (.getfield 174, 3) := by decide +kernel
theorem dX9_bestRow_52 : decode cX9_bestRow 52 = .ok (.iconst (-1), 1) := by decide +kernel
theorem dX9_bestRow_53 : decode cX9_bestRow 53 = .ok (.ixor, 1) := by decide +kernel
theorem dX9_bestRow_54 : decode cX9_bestRow 54 = .ok (.iand, 1) := by decide +kernel
theorem dX9_bestRow_55 : decode cX9_bestRow 55 = .ok (.invokestatic 223, 3) := by decide +kernel
theorem dX9_bestRow_58 : decode cX9_bestRow 58 = .ok (.istore_n 3, 1) := by decide +kernel
theorem dX9_bestRow_59 : decode cX9_bestRow 59 = .ok (.iload_n 2, 1) := by decide +kernel
theorem dX9_bestRow_60 : decode cX9_bestRow 60 = .ok (.iconst 2, 1) := by decide +kernel
theorem dX9_bestRow_61 : decode cX9_bestRow 61 = .ok (.if_icmp .ge 7, 3) := by decide +kernel
theorem dX9_bestRow_64 : decode cX9_bestRow 64 = .ok (.iconst 0, 1) := by decide +kernel
theorem dX9_bestRow_65 : decode cX9_bestRow 65 = .ok (.goto 17, 3) := by decide +kernel
theorem dX9_bestRow_68 : decode cX9_bestRow 68 = .ok (.iload_n 3, 1) := by decide +kernel
theorem dX9_bestRow_69 : decode cX9_bestRow 69 = .ok (.aload_n 0, 1) := by decide +kernel
theorem dX9_bestRow_70 : decode cX9_bestRow 70 = .ok (.getfield 50, 3) := by decide +kernel
theorem dX9_bestRow_73 : decode cX9_bestRow 73 = .ok (.getfield 71, 3) := by decide +kernel
theorem dX9_bestRow_76 : decode cX9_bestRow 76 = .ok (.getfield 168, 3) := by decide +kernel
theorem dX9_bestRow_79 : decode cX9_bestRow 79 = .ok (.invokestatic 229, 3) := by decide +kernel
theorem dX9_bestRow_82 : decode cX9_bestRow 82 = .ok (.istore 4, 2) := by decide +kernel
theorem dX9_bestRow_84 : decode cX9_bestRow 84 = .ok (.iload_n 1, 1) := by decide +kernel
theorem dX9_bestRow_85 : decode cX9_bestRow 85 = .ok (.iconst (-1), 1) := by decide +kernel
theorem dX9_bestRow_86 : decode cX9_bestRow 86 = .ok (.if_icmp .ne 6, 3) := by decide +kernel
theorem dX9_bestRow_89 : decode cX9_bestRow 89 = .ok (.iload 4, 2) := by decide +kernel
theorem dX9_bestRow_91 : decode cX9_bestRow 91 = .ok (.ireturn, 1) := by decide +kernel
theorem dX9_bestRow_92 : decode cX9_bestRow 92 = .ok (.iload_n 1, 1) := by decide +kernel
theorem dX9_bestRow_93 : decode cX9_bestRow 93 = .ok (.iload_n 2, 1) := by decide +kernel
theorem dX9_bestRow_94 : decode cX9_bestRow 94 = .ok (.if_icmp .lt 6, 3) := by decide +kernel
theorem dX9_bestRow_97 : decode cX9_bestRow 97 = .ok (.bipush (-2), 2) := by decide +kernel
theorem dX9_bestRow_99 : decode cX9_bestRow 99 = .ok (.ireturn, 1) := by decide +kernel
theorem dX9_bestRow_100 : decode cX9_bestRow 100 = .ok (.aload_n 0, 1) := by decide +kernel
theorem dX9_bestRow_101 : decode cX9_bestRow 101 = .ok (.iload 4, 2) := by decide +kernel
theorem dX9_bestRow_103 : decode cX9_bestRow 103 = .ok (.invokevirtual 234, 3) := by decide +kernel
theorem dX9_bestRow_106 : decode cX9_bestRow 106 = .ok (.aload_n 0, 1) := by decide +kernel
theorem dX9_bestRow_107 : decode cX9_bestRow 107 = .ok (.getfield 81, 3) := by decide +kernel
theorem dX9_bestRow_110 : decode cX9_bestRow 110 = .ok (.iload_n 1, 1) := by decide +kernel
theorem dX9_bestRow_111 : decode cX9_bestRow 111 = .ok (.iaload, 1) := by decide +kernel
theorem dX9_bestRow_112 : decode cX9_bestRow 112 = .ok (.ireturn, 1) := by decide +kernel
def f_X9_bestRow_82 (a0 : Nat) (i1 : Int32) (i2 : Int32) (s0 : Int32) (σ : mm_S) : Option (Int32 × mm_S) :=
    if i1 = (-1 : Int32) then
      some (s0, σ)
    else
      if i1 < i2 then
        bv (f_X9_fillRow a0 s0 σ) fun σ4 =>
        gd i1 6 <|
        some ((σ4.1 211 i1.toNatClampNeg), σ4)
      else
        some ((-2 : Int32), σ)
theorem v_X9_bestRow_82 {g : mm_G} (d : Nat) {a0 : Nat} {i1 : Int32} {i2 : Int32} {s0 : Int32} {σ : mm_S} {res : Int32 × mm_S}  (h_a0 : (mm_K a0).1 = 9) (h : f_X9_bestRow_82 a0 i1 i2 s0 σ = some res) : SV g (d + 3) yy_X9_bestRow 82 [(0, .ref a0), (1, .int i1), (2, .int i2)] [.int s0] σ (.int res.1) res.2 := by
  unfold f_X9_bestRow_82 at h
  refine e_istore (L' := [(0, .ref a0), (1, .int i1), (2, .int i2), (4, .int s0)]) dX9_bestRow_82  (by decide) rfl ?_
  refine e_iload_n 1 dX9_bestRow_84 rfl rfl ?_
  refine e_iconst (v := (-1 : Int32)) dX9_bestRow_85 (by decide) ?_
  refine e_icmp_ne 92 dX9_bestRow_86 (by decide) (fun c1 => ?_) (fun c1 => ?_)
  · rw [if_neg c1] at h
    refine e_iload_n 1 dX9_bestRow_92 rfl rfl ?_
    refine e_iload_n 2 dX9_bestRow_93 rfl rfl ?_
    refine e_icmp_lt 100 dX9_bestRow_94 (by decide) (fun c2 => ?_) (fun c2 => ?_)
    · rw [if_pos c2] at h
      refine e_aload_n 0 dX9_bestRow_100 rfl rfl ?_
      refine e_iload 3 dX9_bestRow_101  rfl ?_
      obtain ⟨σ4, q3, h⟩ := bv_some h
      refine s_callVv [.int s0] dX9_bestRow_103 ml_RX9_234 h_a0 rfl rfl (v_X9_fillRow (d + 0) h_a0 q3) (Nat.le_of_ble_eq_true rfl) ?_
      refine e_aload_n 0 dX9_bestRow_106 rfl rfl ?_
      refine s_getr dX9_bestRow_107 fl_RX9_81 h_a0 (r_9_10 h_a0).1 ?_
      refine e_iload_n 1 dX9_bestRow_110 rfl rfl ?_
      obtain ⟨q5, h⟩ := gd_some h
      refine s_iald dX9_bestRow_111 (r_9_10 (w := 0) h_a0).2 q5 ?_
      obtain rfl := Option.some.inj h
      exact s_ret rfl ⟨_, rfl, rfl⟩ dX9_bestRow_112
    · rw [if_neg c2] at h
      refine e_bipush (v := (-2 : Int32)) dX9_bestRow_97 (by decide) ?_
      obtain rfl := Option.some.inj h
      exact s_ret rfl ⟨_, rfl, rfl⟩ dX9_bestRow_99
  · rw [if_pos c1] at h
    refine e_iload 3 dX9_bestRow_89  rfl ?_
    obtain rfl := Option.some.inj h
    exact s_ret rfl ⟨_, rfl, rfl⟩ dX9_bestRow_91
def f_X9_bestRow (a0 : Nat) (i1 : Int32) (σ : mm_S) : Option (Int32 × mm_S) :=
    if (σ.1 (26 + 1) 0) = 0 then
      some ((-3 : Int32), σ)
    else
      if i1 < (-1 : Int32) then
        some ((-3 : Int32), σ)
      else
        if i1 < (6 : Int32) then
          lt ((σ.1 (26 + 1) 3)) fun x23 =>
          bd (f_X9_everybody a0 σ) fun r27 σ26 =>
          bd (f_J6_bitCount_0f7a4 (r27 &&& ((σ26.1 (26 + 5) 1) ^^^ (-1 : Int32))) σ26) fun r30 σ29 =>
          if (2 : Int32) ≤ x23 then
            lt ((if (σ29.1 (26 + 1) 2) < r30 then (σ29.1 (26 + 1) 2) else r30)) fun x32 =>
            f_X9_bestRow_82 a0 i1 x23 x32 σ29
          else
            f_X9_bestRow_82 a0 i1 x23 (0 : Int32) σ29
        else
          some ((-3 : Int32), σ)
theorem v_X9_bestRow {g : mm_G} (d : Nat) {a0 : Nat} {i1 : Int32} {σ : mm_S} {res : Int32 × mm_S} (h_a0 : (mm_K a0).1 = 9) (h : f_X9_bestRow a0 i1 σ = some res) : SM g (d + 3) yy_X9_bestRow [.ref a0, .int i1] σ (.int res.1) res.2 := by
  refine s_of (by decide) (Nat.le_of_ble_eq_true rfl) (L := [(0, .ref a0), (1, .int i1)]) rfl ?_
  unfold f_X9_bestRow at h
  refine e_aload_n 0 dX9_bestRow_0 rfl rfl ?_
  refine s_getr dX9_bestRow_1 fl_RX9_50 h_a0 (r_9_5 h_a0).1 ?_
  refine s_getr dX9_bestRow_4 fl_RX9_71 (ka_1 (r_9_5 (w := 0) h_a0).2) (r_8_0 (ka_1 (r_9_5 (w := 0) h_a0).2)).1 ?_
  refine s_geti dX9_bestRow_7 fl_RX9_188 (ka_1 (r_8_0 (w := 0) (ka_1 (r_9_5 (w := 0) h_a0).2)).2) ?_
  refine e_if_eq 24 dX9_bestRow_10 (by decide) (fun c20 => ?_) (fun c20 => ?_)
  · rw [if_pos c20] at h
    refine e_bipush (v := (-3 : Int32)) dX9_bestRow_24 (by decide) ?_
    obtain rfl := Option.some.inj h
    exact s_ret rfl ⟨_, rfl, rfl⟩ dX9_bestRow_26
  · rw [if_neg c20] at h
    refine e_iload_n 1 dX9_bestRow_13 rfl rfl ?_
    refine e_iconst (v := (-1 : Int32)) dX9_bestRow_14 (by decide) ?_
    refine e_icmp_lt 24 dX9_bestRow_15 (by decide) (fun c21 => ?_) (fun c21 => ?_)
    · rw [if_pos c21] at h
      refine e_bipush (v := (-3 : Int32)) dX9_bestRow_24 (by decide) ?_
      obtain rfl := Option.some.inj h
      exact s_ret rfl ⟨_, rfl, rfl⟩ dX9_bestRow_26
    · rw [if_neg c21] at h
      refine e_iload_n 1 dX9_bestRow_18 rfl rfl ?_
      refine e_bipush (v := (6 : Int32)) dX9_bestRow_19 (by decide) ?_
      refine e_icmp_lt 27 dX9_bestRow_21 (by decide) (fun c22 => ?_) (fun c22 => ?_)
      · rw [if_pos c22] at h
        refine e_aload_n 0 dX9_bestRow_27 rfl rfl ?_
        refine s_getr dX9_bestRow_28 fl_RX9_50 h_a0 (r_9_5 h_a0).1 ?_
        refine s_getr dX9_bestRow_31 fl_RX9_71 (ka_1 (r_9_5 (w := 0) h_a0).2) (r_8_0 (ka_1 (r_9_5 (w := 0) h_a0).2)).1 ?_
        refine s_geti dX9_bestRow_34 fl_RX9_128 (ka_1 (r_8_0 (w := 0) (ka_1 (r_9_5 (w := 0) h_a0).2)).2) ?_
        obtain ⟨x23, q24, h⟩ := lt_some h
        refine s_nmi q24 ?_
        refine e_istore_n (L' := [(0, .ref a0), (1, .int i1), (2, .int x23)]) dX9_bestRow_37 rfl (by decide) rfl ?_
        refine e_aload_n 0 dX9_bestRow_38 rfl rfl ?_
        obtain ⟨r27, σ26, q25, h⟩ := bd_some h
        refine s_callVi [] dX9_bestRow_39 ml_RX9_216 h_a0 ⟨_, rfl, by decide⟩ rfl (v_X9_everybody (d + 2) h_a0 q25) (Nat.le_of_ble_eq_true rfl) ?_
        refine e_aload_n 0 dX9_bestRow_42 rfl rfl ?_
        refine s_getr dX9_bestRow_43 fl_RX9_50 h_a0 (r_9_5 h_a0).1 ?_
        refine s_getr dX9_bestRow_46 fl_RX9_107 (ka_1 (r_9_5 (w := 0) h_a0).2) (r_8_1 (ka_1 (r_9_5 (w := 0) h_a0).2)).1 ?_
        refine s_geti dX9_bestRow_49 fl_RX9_174 (ka_1 (r_8_1 (w := 0) (ka_1 (r_9_5 (w := 0) h_a0).2)).2) ?_
        refine e_iconst (v := (-1 : Int32)) dX9_bestRow_52 (by decide) ?_
        refine e_ixor dX9_bestRow_53 ?_
        refine e_iand dX9_bestRow_54 ?_
        obtain ⟨r30, σ29, q28, h⟩ := bd_some h
        refine s_callSi [.int (r27 &&& ((σ26.1 (26 + 5) 1) ^^^ (-1 : Int32)))] dX9_bestRow_55 ml_RX9_223 ⟨_, rfl, by decide⟩ rfl (v_J6_bitCount_0f7a4 (d + 2)  q28) (Nat.le_of_ble_eq_true rfl) ?_
        refine e_istore_n (L' := [(0, .ref a0), (1, .int i1), (2, .int x23), (3, .int r30)]) dX9_bestRow_58 rfl (by decide) rfl ?_
        refine e_iload_n 2 dX9_bestRow_59 rfl rfl ?_
        refine e_iconst (v := (2 : Int32)) dX9_bestRow_60 (by decide) ?_
        refine e_icmp_ge 68 dX9_bestRow_61 (by decide) (fun c31 => ?_) (fun c31 => ?_)
        · rw [if_pos c31] at h
          refine e_iload_n 3 dX9_bestRow_68 rfl rfl ?_
          refine e_aload_n 0 dX9_bestRow_69 rfl rfl ?_
          refine s_getr dX9_bestRow_70 fl_RX9_50 h_a0 (r_9_5 h_a0).1 ?_
          refine s_getr dX9_bestRow_73 fl_RX9_71 (ka_1 (r_9_5 (w := 0) h_a0).2) (r_8_0 (ka_1 (r_9_5 (w := 0) h_a0).2)).1 ?_
          refine s_geti dX9_bestRow_76 fl_RX9_168 (ka_1 (r_8_0 (w := 0) (ka_1 (r_9_5 (w := 0) h_a0).2)).2) ?_
          refine s_mmin dX9_bestRow_79 mx_RX9_229 (Nat.le_of_ble_eq_true rfl) ?_
          obtain ⟨x32, q33, h⟩ := lt_some h
          refine s_nmi q33 ?_
          refine s_pick (L' := [(0, .ref a0), (1, .int i1), (2, .int x23)]) [0, 1, 2] rfl ?_
          exact v_X9_bestRow_82 d h_a0 h
        · rw [if_neg c31] at h
          refine e_iconst (v := (0 : Int32)) dX9_bestRow_64 (by decide) ?_
          refine e_goto 82 dX9_bestRow_65 (by decide) ?_
          refine s_pick (L' := [(0, .ref a0), (1, .int i1), (2, .int x23)]) [0, 1, 2] rfl ?_
          exact v_X9_bestRow_82 d h_a0 h
      · rw [if_neg c22] at h
        refine e_bipush (v := (-3 : Int32)) dX9_bestRow_24 (by decide) ?_
        obtain rfl := Option.some.inj h
        exact s_ret rfl ⟨_, rfl, rfl⟩ dX9_bestRow_26
abbrev yy_X9_forOne : mm_Y := (yX9_forOne, cX9_forOne, 9, (some .int))
theorem dX9_forOne_0 : decode cX9_forOne 0 = .ok (.aload_n 0, 1) := by decide +kernel
theorem dX9_forOne_1 : decode cX9_forOne 1 = .ok (.iload_n 1, 1) := by decide +kernel
theorem dX9_forOne_2 : decode cX9_forOne 2 = .ok (.iload_n 2, 1) := by decide +kernel
theorem dX9_forOne_3 : decode cX9_forOne 3 = .ok (.invokevirtual 157, 3) := by decide +kernel
theorem dX9_forOne_6 : decode cX9_forOne 6 = .ok (.ifCond .eq 39, 3) := by decide +kernel
theorem dX9_forOne_9 : decode cX9_forOne 9 = .ok (.aload_n 0, 1) := by decide +kernel
theorem dX9_forOne_10 : decode cX9_forOne 10 = .ok (.getfield 50, 3) := by decide +kernel
theorem dX9_forOne_13 : decode cX9_forOne 13 = .ok (.getfield 107, 3) := by decide +kernel
theorem dX9_forOne_16 : decode cX9_forOne 16 = .ok (.iload_n 2, 1) := by decide +kernel
theorem dX9_forOne_17 : decode cX9_forOne 17 = .ok (.invokevirtual 148, 3) := by decide +kernel
theorem dX9_forOne_20 : decode cX9_forOne 20 = .ok (.ifCond .ne 25, 3) := by decide +kernel
theorem dX9_forOne_23 : decode cX9_forOne 23 = .ok (.iload_n 3, 1) := by decide +kernel
theorem dX9_forOne_24 : decode cX9_forOne 24 = .ok (.iconst 1, 1) := by decide +kernel
theorem dX9_forOne_25 : decode cX9_forOne 25 = .ok (.if_icmp .lt 20, 3) := by decide +kernel
theorem dX9_forOne_28 : decode cX9_forOne 28 = .ok (.iload_n 3, 1) := by decide +kernel
theorem dX9_forOne_29 : decode cX9_forOne 29 = .ok (.bipush 30, 2) := by decide +kernel
theorem dX9_forOne_31 : decode cX9_forOne 31 = .ok (.if_icmp .gt 14, 3) := by decide +kernel
theorem dX9_forOne_34 : decode cX9_forOne 34 = .ok (.iload 4, 2) := by decide +kernel
theorem dX9_forOne_36 : decode cX9_forOne 36 = .ok (.ifCond .lt 9, 3) := by decide +kernel
theorem dX9_forOne_39 : decode cX9_forOne 39 = .ok (.iload 4, 2) := by decide +kernel
theorem dX9_forOne_41 : decode cX9_forOne 41 = .ok (.iconst 1, 1) := by decide +kernel
theorem dX9_forOne_42 : decode cX9_forOne 42 = .ok (.if_icmp .le 6, 3) := by decide +kernel
theorem dX9_forOne_45 : decode cX9_forOne 45 = .ok (.bipush (-2), 2) := by decide +kernel
theorem dX9_forOne_47 : decode cX9_forOne 47 = .ok (.ireturn, 1) := by decide +kernel
theorem dX9_forOne_48 : decode cX9_forOne 48 = .ok (.iconst (-1), 1) := by decide +kernel
theorem dX9_forOne_49 : decode cX9_forOne 49 = .ok (.istore 5, 2) := by decide +kernel
theorem dX9_forOne_51 : decode cX9_forOne 51 = .ok (.iconst (-1), 1) := by decide +kernel
theorem dX9_forOne_52 : decode cX9_forOne 52 = .ok (.istore 6, 2) := by decide +kernel
theorem dX9_forOne_54 : decode cX9_forOne 54 = .ok (.iconst (-1), 1) := by decide +kernel
theorem dX9_forOne_55 : decode cX9_forOne 55 = .ok (.istore 7, 2) := by decide +kernel
theorem dX9_forOne_57 : decode cX9_forOne 57 = .ok (.iload 7, 2) := by decide +kernel
theorem dX9_forOne_59 : decode cX9_forOne 59 = .ok (.aload_n 0, 1) := by decide +kernel
theorem dX9_forOne_60 : decode cX9_forOne 60 = .ok (.getfield 50, 3) := by decide +kernel
theorem dX9_forOne_63 : decode cX9_forOne 63 = .ok (.getfield 71, 3) := by decide +kernel
theorem dX9_forOne_66 : decode cX9_forOne 66 = .ok (.getfield 128, 3) := by decide +kernel
theorem dX9_forOne_69 : decode cX9_forOne 69 = .ok (.if_icmp .ge 83, 3) := by decide +kernel
theorem dX9_forOne_72 : decode cX9_forOne 72 = .ok (.iload 7, 2) := by decide +kernel
theorem dX9_forOne_74 : decode cX9_forOne 74 = .ok (.iload_n 2, 1) := by decide +kernel
theorem dX9_forOne_75 : decode cX9_forOne 75 = .ok (.if_icmp .eq 71, 3) := by decide +kernel
theorem dX9_forOne_78 : decode cX9_forOne 78 = .ok (.aload_n 0, 1) := by decide +kernel
theorem dX9_forOne_79 : decode cX9_forOne 79 = .ok (.invokevirtual 196, 3) := by decide +kernel
theorem dX9_forOne_82 : decode cX9_forOne 82 = .ok (.aload_n 0, 1) := by decide +kernel
theorem dX9_forOne_83 : decode cX9_forOne 83 = .ok (.getfield 77, 3) := by decide +kernel
theorem dX9_forOne_86 : decode cX9_forOne 86 = .ok (.getfield 202, 3) := by decide +kernel
theorem dX9_forOne_89 : decode cX9_forOne 89 = .ok (.getfield 151, 3) := by decide +kernel
theorem dX9_forOne_92 : decode cX9_forOne 92 = .ok (.iload_n 2, 1) := by decide +kernel
theorem dX9_forOne_93 : decode cX9_forOne 93 = .ok (.iload 7, 2) := by decide +kernel
theorem dX9_forOne_95 : decode cX9_forOne 95 = .ok (.iastore, 1) := by decide +kernel
theorem dX9_forOne_96 : decode cX9_forOne 96 = .ok (.aload_n 0, 1) := by decide +kernel
theorem dX9_forOne_97 : decode cX9_forOne 97 = .ok (.getfield 77, 3) := by decide +kernel
theorem dX9_forOne_100 : decode cX9_forOne 100 = .ok (.iload_n 3, 1) := by decide +kernel
theorem dX9_forOne_101 : decode cX9_forOne 101 = .ok (.invokevirtual 199, 3) := by decide +kernel
theorem dX9_forOne_104 : decode cX9_forOne 104 = .ok (.aload_n 0, 1) := by decide +kernel
theorem dX9_forOne_105 : decode cX9_forOne 105 = .ok (.getfield 77, 3) := by decide +kernel
theorem dX9_forOne_108 : decode cX9_forOne 108 = .ok (.getfield 202, 3) := by decide +kernel
theorem dX9_forOne_111 : decode cX9_forOne 111 = .ok (.getfield 154, 3) := by decide +kernel
theorem dX9_forOne_114 : decode cX9_forOne 114 = .ok (.iload_n 1, 1) := by decide +kernel
theorem dX9_forOne_115 : decode cX9_forOne 115 = .ok (.iaload, 1) := by decide +kernel
theorem dX9_forOne_116 : decode cX9_forOne 116 = .ok (.aload_n 0, 1) := by decide +kernel
theorem dX9_forOne_117 : decode cX9_forOne 117 = .ok (.getfield 50, 3) := by decide +kernel
theorem dX9_forOne_120 : decode cX9_forOne 120 = .ok (.getfield 107, 3) := by decide +kernel
theorem dX9_forOne_123 : decode cX9_forOne 123 = .ok (.getfield 154, 3) := by decide +kernel
theorem dX9_forOne_126 : decode cX9_forOne 126 = .ok (.iload_n 1, 1) := by decide +kernel
theorem dX9_forOne_127 : decode cX9_forOne 127 = .ok (.iaload, 1) := by decide +kernel
theorem dX9_forOne_128 : decode cX9_forOne 128 = .ok (.isub, 1) := by decide +kernel
theorem dX9_forOne_129 : decode cX9_forOne 129 = .ok (.istore 8, 2) := by decide +kernel
theorem dX9_forOne_131 : decode cX9_forOne 131 = .ok (.iload 8, 2) := by decide +kernel
theorem dX9_forOne_133 : decode cX9_forOne 133 = .ok (.iload 6, 2) := by decide +kernel
theorem dX9_forOne_135 : decode cX9_forOne 135 = .ok (.if_icmp .le 11, 3) := by decide +kernel
theorem dX9_forOne_138 : decode cX9_forOne 138 = .ok (.iload 8, 2) := by decide +kernel
theorem dX9_forOne_140 : decode cX9_forOne 140 = .ok (.istore 6, 2) := by decide +kernel
theorem dX9_forOne_142 : decode cX9_forOne 142 = .ok (.iload 7, 2) := by decide +kernel
theorem dX9_forOne_144 : decode cX9_forOne 144 = .ok (.istore 5, 2) := by decide +kernel
theorem dX9_forOne_146 : decode cX9_forOne 146 = .ok (.iinc 7 1, 3) := by decide +kernel
theorem dX9_forOne_149 : decode cX9_forOne 149 = .ok (.goto (-92), 3) := by decide +kernel
theorem dX9_forOne_152 : decode cX9_forOne 152 = .ok (.iload 4, 2) := by decide +kernel
theorem dX9_forOne_154 : decode cX9_forOne 154 = .ok (.ifCond .ne 8, 3) := by decide +kernel
theorem dX9_forOne_157 : decode cX9_forOne 157 = .ok (.iload 5, 2) := by decide +kernel
theorem dX9_forOne_159 : decode cX9_forOne 159 = .ok (.goto 5, 3) := by decide +kernel
theorem dX9_forOne_162 : decode cX9_forOne 162 = .ok (.iload 6, 2) := by decide +kernel
theorem dX9_forOne_164 : decode cX9_forOne 164 = .ok (.ireturn, 1) := by decide +kernel
def f_X9_forOne_57 (a0 : Nat) (i1 : Int32) (i2 : Int32) (i3 : Int32) (i4 : Int32) (i5 : Int32) (i6 : Int32) (i7 : Int32) (σ : mm_S) : Option (Int32 × mm_S) :=
  lp lpN (fun (k57 : (Int32 × Int32 × Int32) → mm_S → Option (Int32 × mm_S)) (v : Int32 × Int32 × Int32) (σ : mm_S) =>
    if (σ.1 (26 + 1) 3) ≤ v.2.2 then
      if i4 = 0 then
        some (v.1, σ)
      else
        some (v.2.1, σ)
    else
      if v.2.2 = i2 then
        lt (v.2.2 + Int32.ofInt (1)) fun x4 =>
        k57 (v.1, v.2.1, x4) σ
      else
        bv (f_X9_walkFromNow a0 σ) fun σ7 =>
        gd i2 6 <|
        lt (su_i σ7 (201 + 3) i2.toNatClampNeg v.2.2) fun σ9 =>
        bv (f_X7_passHours 200 i3 σ9) fun σ12 =>
        gd i1 6 <|
        gd i1 6 <|
        lt (((σ12.1 (201 + 4) i1.toNatClampNeg) - (σ12.1 ((26 + 5) + 4) i1.toNatClampNeg))) fun x15 =>
        if x15 ≤ v.2.1 then
          lt (v.2.2 + Int32.ofInt (1)) fun x18 =>
          k57 (v.1, v.2.1, x18) σ12
        else
          lt (v.2.2 + Int32.ofInt (1)) fun x20 =>
          k57 (v.2.2, x15, x20) σ12) (i5, i6, i7) σ
theorem v_X9_forOne_57 {g : mm_G} (d : Nat) {a0 : Nat} {i1 : Int32} {i2 : Int32} {i3 : Int32} {i4 : Int32} {i5 : Int32} {i6 : Int32} {i7 : Int32} {σ : mm_S} {res : Int32 × mm_S}  (h_a0 : (mm_K a0).1 = 9) (h : f_X9_forOne_57 a0 i1 i2 i3 i4 i5 i6 i7 σ = some res) : SV g (d + 5) yy_X9_forOne 57 [(0, .ref a0), (1, .int i1), (2, .int i2), (3, .int i3), (4, .int i4), (5, .int i5), (6, .int i6), (7, .int i7)] [] σ (.int res.1) res.2 := by
  unfold f_X9_forOne_57 at h
  refine lp_ind (P := fun v σ => SV g (d + 5) yy_X9_forOne 57 [(0, .ref a0), (1, .int i1), (2, .int i2), (3, .int i3), (4, .int i4), (5, .int v.1), (6, .int v.2.1), (7, .int v.2.2)] [] σ (.int res.1) res.2) (fun k57 H57 v σ h => ?_) _ (i5, i6, i7) σ h
  refine e_iload 7 dX9_forOne_57  rfl ?_
  refine e_aload_n 0 dX9_forOne_59 rfl rfl ?_
  refine s_getr dX9_forOne_60 fl_RX9_50 h_a0 (r_9_5 h_a0).1 ?_
  refine s_getr dX9_forOne_63 fl_RX9_71 (ka_1 (r_9_5 (w := 0) h_a0).2) (r_8_0 (ka_1 (r_9_5 (w := 0) h_a0).2)).1 ?_
  refine s_geti dX9_forOne_66 fl_RX9_128 (ka_1 (r_8_0 (w := 0) (ka_1 (r_9_5 (w := 0) h_a0).2)).2) ?_
  refine e_icmp_ge 152 dX9_forOne_69 (by decide) (fun c1 => ?_) (fun c1 => ?_)
  · rw [if_pos c1] at h
    refine e_iload 4 dX9_forOne_152  rfl ?_
    refine e_if_ne 162 dX9_forOne_154 (by decide) (fun c2 => ?_) (fun c2 => ?_)
    · rw [if_neg c2] at h
      refine e_iload 6 dX9_forOne_162  rfl ?_
      obtain rfl := Option.some.inj h
      exact s_ret rfl ⟨_, rfl, rfl⟩ dX9_forOne_164
    · rw [if_pos c2] at h
      refine e_iload 5 dX9_forOne_157  rfl ?_
      refine e_goto 164 dX9_forOne_159 (by decide) ?_
      obtain rfl := Option.some.inj h
      exact s_ret rfl ⟨_, rfl, rfl⟩ dX9_forOne_164
  · rw [if_neg c1] at h
    refine e_iload 7 dX9_forOne_72  rfl ?_
    refine e_iload_n 2 dX9_forOne_74 rfl rfl ?_
    refine e_icmp_eq 146 dX9_forOne_75 (by decide) (fun c3 => ?_) (fun c3 => ?_)
    · rw [if_pos c3] at h
      obtain ⟨x4, q5, h⟩ := lt_some h
      refine e_iinc (v := x4) (L' := [(0, .ref a0), (1, .int i1), (2, .int i2), (3, .int i3), (4, .int i4), (5, .int v.1), (6, .int v.2.1), (7, .int x4)]) 7 dX9_forOne_146 rfl q5.symm (by decide) rfl ?_
      refine e_goto 57 dX9_forOne_149 (by decide) ?_
      refine s_pick (L' := [(0, .ref a0), (1, .int i1), (2, .int i2), (3, .int i3), (4, .int i4), (5, .int v.1), (6, .int v.2.1), (7, .int x4)]) [0, 1, 2, 3, 4, 5, 6, 7] rfl ?_
      exact H57 (v.1, v.2.1, x4) σ h
    · rw [if_neg c3] at h
      refine e_aload_n 0 dX9_forOne_78 rfl rfl ?_
      obtain ⟨σ7, q6, h⟩ := bv_some h
      refine s_callVv [] dX9_forOne_79 ml_RX9_196 h_a0 rfl rfl (v_X9_walkFromNow (d + 1) h_a0 q6) (Nat.le_of_ble_eq_true rfl) ?_
      refine e_aload_n 0 dX9_forOne_82 rfl rfl ?_
      refine s_getr dX9_forOne_83 fl_RX9_77 h_a0 (r_9_9 h_a0).1 ?_
      refine s_getr dX9_forOne_86 fl_RX9_202 (ka_1 (r_9_9 (w := 0) h_a0).2) (r_7_1 (ka_1 (r_9_9 (w := 0) h_a0).2)).1 ?_
      refine s_getr dX9_forOne_89 fl_RX9_151 (ka_1 (r_7_1 (w := 0) (ka_1 (r_9_9 (w := 0) h_a0).2)).2) (r_2_4 (ka_1 (r_7_1 (w := 0) (ka_1 (r_9_9 (w := 0) h_a0).2)).2)).1 ?_
      refine e_iload_n 2 dX9_forOne_92 rfl rfl ?_
      refine e_iload 7 dX9_forOne_93  rfl ?_
      obtain ⟨q8, h⟩ := gd_some h
      refine s_iast dX9_forOne_95 (r_2_4 (w := 0) (ka_1 (r_7_1 (w := 0) (ka_1 (r_9_9 (w := 0) h_a0).2)).2)).2 q8 ?_
      obtain ⟨σ9, q10, h⟩ := lt_some h
      refine s_nms q10 ?_
      refine e_aload_n 0 dX9_forOne_96 rfl rfl ?_
      refine s_getr dX9_forOne_97 fl_RX9_77 h_a0 (r_9_9 h_a0).1 ?_
      refine e_iload_n 3 dX9_forOne_100 rfl rfl ?_
      obtain ⟨σ12, q11, h⟩ := bv_some h
      refine s_callVv [.int i3] dX9_forOne_101 ml_RX9_199 (ka_1 (r_9_9 (w := 0) h_a0).2) rfl rfl (v_X7_passHours (d + 0) (ka_1 (r_9_9 (w := 0) h_a0).2) q11) (Nat.le_of_ble_eq_true rfl) ?_
      refine e_aload_n 0 dX9_forOne_104 rfl rfl ?_
      refine s_getr dX9_forOne_105 fl_RX9_77 h_a0 (r_9_9 h_a0).1 ?_
      refine s_getr dX9_forOne_108 fl_RX9_202 (ka_1 (r_9_9 (w := 0) h_a0).2) (r_7_1 (ka_1 (r_9_9 (w := 0) h_a0).2)).1 ?_
      refine s_getr dX9_forOne_111 fl_RX9_154 (ka_1 (r_7_1 (w := 0) (ka_1 (r_9_9 (w := 0) h_a0).2)).2) (r_2_5 (ka_1 (r_7_1 (w := 0) (ka_1 (r_9_9 (w := 0) h_a0).2)).2)).1 ?_
      refine e_iload_n 1 dX9_forOne_114 rfl rfl ?_
      obtain ⟨q13, h⟩ := gd_some h
      refine s_iald dX9_forOne_115 (r_2_5 (w := 0) (ka_1 (r_7_1 (w := 0) (ka_1 (r_9_9 (w := 0) h_a0).2)).2)).2 q13 ?_
      refine e_aload_n 0 dX9_forOne_116 rfl rfl ?_
      refine s_getr dX9_forOne_117 fl_RX9_50 h_a0 (r_9_5 h_a0).1 ?_
      refine s_getr dX9_forOne_120 fl_RX9_107 (ka_1 (r_9_5 (w := 0) h_a0).2) (r_8_1 (ka_1 (r_9_5 (w := 0) h_a0).2)).1 ?_
      refine s_getr dX9_forOne_123 fl_RX9_154 (ka_1 (r_8_1 (w := 0) (ka_1 (r_9_5 (w := 0) h_a0).2)).2) (r_2_5 (ka_1 (r_8_1 (w := 0) (ka_1 (r_9_5 (w := 0) h_a0).2)).2)).1 ?_
      refine e_iload_n 1 dX9_forOne_126 rfl rfl ?_
      obtain ⟨q14, h⟩ := gd_some h
      refine s_iald dX9_forOne_127 (r_2_5 (w := 0) (ka_1 (r_8_1 (w := 0) (ka_1 (r_9_5 (w := 0) h_a0).2)).2)).2 q14 ?_
      refine e_isub dX9_forOne_128 ?_
      obtain ⟨x15, q16, h⟩ := lt_some h
      refine s_nmi q16 ?_
      refine e_istore (L' := [(0, .ref a0), (1, .int i1), (2, .int i2), (3, .int i3), (4, .int i4), (5, .int v.1), (6, .int v.2.1), (7, .int v.2.2), (8, .int x15)]) dX9_forOne_129  (by decide) rfl ?_
      refine e_iload 8 dX9_forOne_131  rfl ?_
      refine e_iload 6 dX9_forOne_133  rfl ?_
      refine e_icmp_le 146 dX9_forOne_135 (by decide) (fun c17 => ?_) (fun c17 => ?_)
      · rw [if_pos c17] at h
        obtain ⟨x18, q19, h⟩ := lt_some h
        refine e_iinc (v := x18) (L' := [(0, .ref a0), (1, .int i1), (2, .int i2), (3, .int i3), (4, .int i4), (5, .int v.1), (6, .int v.2.1), (7, .int x18), (8, .int x15)]) 7 dX9_forOne_146 rfl q19.symm (by decide) rfl ?_
        refine e_goto 57 dX9_forOne_149 (by decide) ?_
        refine s_pick (L' := [(0, .ref a0), (1, .int i1), (2, .int i2), (3, .int i3), (4, .int i4), (5, .int v.1), (6, .int v.2.1), (7, .int x18)]) [0, 1, 2, 3, 4, 5, 6, 7] rfl ?_
        exact H57 (v.1, v.2.1, x18) σ12 h
      · rw [if_neg c17] at h
        refine e_iload 8 dX9_forOne_138  rfl ?_
        refine e_istore (L' := [(0, .ref a0), (1, .int i1), (2, .int i2), (3, .int i3), (4, .int i4), (5, .int v.1), (6, .int x15), (7, .int v.2.2), (8, .int x15)]) dX9_forOne_140  (by decide) rfl ?_
        refine e_iload 7 dX9_forOne_142  rfl ?_
        refine e_istore (L' := [(0, .ref a0), (1, .int i1), (2, .int i2), (3, .int i3), (4, .int i4), (5, .int v.2.2), (6, .int x15), (7, .int v.2.2), (8, .int x15)]) dX9_forOne_144  (by decide) rfl ?_
        obtain ⟨x20, q21, h⟩ := lt_some h
        refine e_iinc (v := x20) (L' := [(0, .ref a0), (1, .int i1), (2, .int i2), (3, .int i3), (4, .int i4), (5, .int v.2.2), (6, .int x15), (7, .int x20), (8, .int x15)]) 7 dX9_forOne_146 rfl q21.symm (by decide) rfl ?_
        refine e_goto 57 dX9_forOne_149 (by decide) ?_
        refine s_pick (L' := [(0, .ref a0), (1, .int i1), (2, .int i2), (3, .int i3), (4, .int i4), (5, .int v.2.2), (6, .int x15), (7, .int x20)]) [0, 1, 2, 3, 4, 5, 6, 7] rfl ?_
        exact H57 (v.2.2, x15, x20) σ12 h
def f_X9_forOne (a0 : Nat) (i1 : Int32) (i2 : Int32) (i3 : Int32) (i4 : Int32) (σ : mm_S) : Option (Int32 × mm_S) :=
    bd (f_X9_areUnlike a0 i1 i2 σ) fun r36 σ35 =>
    if r36 = 0 then
      some ((-2 : Int32), σ35)
    else
      bd (f_X2_isIn (26 + 5) i2 σ35) fun r40 σ39 =>
      if r40 = 0 then
        if i3 < (1 : Int32) then
          some ((-2 : Int32), σ39)
        else
          if (30 : Int32) < i3 then
            some ((-2 : Int32), σ39)
          else
            if i4 < 0 then
              some ((-2 : Int32), σ39)
            else
              if i4 ≤ (1 : Int32) then
                f_X9_forOne_57 a0 i1 i2 i3 i4 (-1 : Int32) (-1 : Int32) (-1 : Int32) σ39
              else
                some ((-2 : Int32), σ39)
      else
        some ((-2 : Int32), σ39)
theorem v_X9_forOne {g : mm_G} (d : Nat) {a0 : Nat} {i1 : Int32} {i2 : Int32} {i3 : Int32} {i4 : Int32} {σ : mm_S} {res : Int32 × mm_S} (h_a0 : (mm_K a0).1 = 9) (h : f_X9_forOne a0 i1 i2 i3 i4 σ = some res) : SM g (d + 5) yy_X9_forOne [.ref a0, .int i1, .int i2, .int i3, .int i4] σ (.int res.1) res.2 := by
  refine s_of (by decide) (Nat.le_of_ble_eq_true rfl) (L := [(0, .ref a0), (1, .int i1), (2, .int i2), (3, .int i3), (4, .int i4)]) rfl ?_
  unfold f_X9_forOne at h
  refine e_aload_n 0 dX9_forOne_0 rfl rfl ?_
  refine e_iload_n 1 dX9_forOne_1 rfl rfl ?_
  refine e_iload_n 2 dX9_forOne_2 rfl rfl ?_
  obtain ⟨r36, σ35, q34, h⟩ := bd_some h
  refine s_callVi [.int i1, .int i2] dX9_forOne_3 ml_RX9_157 h_a0 ⟨_, rfl, by decide⟩ rfl (v_X9_areUnlike (d + 3) h_a0 q34) (Nat.le_of_ble_eq_true rfl) ?_
  refine e_if_eq 45 dX9_forOne_6 (by decide) (fun c37 => ?_) (fun c37 => ?_)
  · rw [if_pos c37] at h
    refine e_bipush (v := (-2 : Int32)) dX9_forOne_45 (by decide) ?_
    obtain rfl := Option.some.inj h
    exact s_ret rfl ⟨_, rfl, rfl⟩ dX9_forOne_47
  · rw [if_neg c37] at h
    refine e_aload_n 0 dX9_forOne_9 rfl rfl ?_
    refine s_getr dX9_forOne_10 fl_RX9_50 h_a0 (r_9_5 h_a0).1 ?_
    refine s_getr dX9_forOne_13 fl_RX9_107 (ka_1 (r_9_5 (w := 0) h_a0).2) (r_8_1 (ka_1 (r_9_5 (w := 0) h_a0).2)).1 ?_
    refine e_iload_n 2 dX9_forOne_16 rfl rfl ?_
    obtain ⟨r40, σ39, q38, h⟩ := bd_some h
    refine s_callVi [.int i2] dX9_forOne_17 ml_RX9_148 (ka_1 (r_8_1 (w := 0) (ka_1 (r_9_5 (w := 0) h_a0).2)).2) ⟨_, rfl, by decide⟩ rfl (v_X2_isIn (d + 4) (ka_1 (r_8_1 (w := 0) (ka_1 (r_9_5 (w := 0) h_a0).2)).2) q38) (Nat.le_of_ble_eq_true rfl) ?_
    refine e_if_ne 45 dX9_forOne_20 (by decide) (fun c41 => ?_) (fun c41 => ?_)
    · rw [if_neg c41] at h
      refine e_bipush (v := (-2 : Int32)) dX9_forOne_45 (by decide) ?_
      obtain rfl := Option.some.inj h
      exact s_ret rfl ⟨_, rfl, rfl⟩ dX9_forOne_47
    · rw [if_pos c41] at h
      refine e_iload_n 3 dX9_forOne_23 rfl rfl ?_
      refine e_iconst (v := (1 : Int32)) dX9_forOne_24 (by decide) ?_
      refine e_icmp_lt 45 dX9_forOne_25 (by decide) (fun c42 => ?_) (fun c42 => ?_)
      · rw [if_pos c42] at h
        refine e_bipush (v := (-2 : Int32)) dX9_forOne_45 (by decide) ?_
        obtain rfl := Option.some.inj h
        exact s_ret rfl ⟨_, rfl, rfl⟩ dX9_forOne_47
      · rw [if_neg c42] at h
        refine e_iload_n 3 dX9_forOne_28 rfl rfl ?_
        refine e_bipush (v := (30 : Int32)) dX9_forOne_29 (by decide) ?_
        refine e_icmp_gt 45 dX9_forOne_31 (by decide) (fun c43 => ?_) (fun c43 => ?_)
        · rw [if_pos c43] at h
          refine e_bipush (v := (-2 : Int32)) dX9_forOne_45 (by decide) ?_
          obtain rfl := Option.some.inj h
          exact s_ret rfl ⟨_, rfl, rfl⟩ dX9_forOne_47
        · rw [if_neg c43] at h
          refine e_iload 4 dX9_forOne_34  rfl ?_
          refine e_if_lt 45 dX9_forOne_36 (by decide) (fun c44 => ?_) (fun c44 => ?_)
          · rw [if_pos c44] at h
            refine e_bipush (v := (-2 : Int32)) dX9_forOne_45 (by decide) ?_
            obtain rfl := Option.some.inj h
            exact s_ret rfl ⟨_, rfl, rfl⟩ dX9_forOne_47
          · rw [if_neg c44] at h
            refine e_iload 4 dX9_forOne_39  rfl ?_
            refine e_iconst (v := (1 : Int32)) dX9_forOne_41 (by decide) ?_
            refine e_icmp_le 48 dX9_forOne_42 (by decide) (fun c45 => ?_) (fun c45 => ?_)
            · rw [if_pos c45] at h
              refine e_iconst (v := (-1 : Int32)) dX9_forOne_48 (by decide) ?_
              refine e_istore (L' := [(0, .ref a0), (1, .int i1), (2, .int i2), (3, .int i3), (4, .int i4), (5, .int (-1 : Int32))]) dX9_forOne_49  (by decide) rfl ?_
              refine e_iconst (v := (-1 : Int32)) dX9_forOne_51 (by decide) ?_
              refine e_istore (L' := [(0, .ref a0), (1, .int i1), (2, .int i2), (3, .int i3), (4, .int i4), (5, .int (-1 : Int32)), (6, .int (-1 : Int32))]) dX9_forOne_52  (by decide) rfl ?_
              refine e_iconst (v := (-1 : Int32)) dX9_forOne_54 (by decide) ?_
              refine e_istore (L' := [(0, .ref a0), (1, .int i1), (2, .int i2), (3, .int i3), (4, .int i4), (5, .int (-1 : Int32)), (6, .int (-1 : Int32)), (7, .int (-1 : Int32))]) dX9_forOne_55  (by decide) rfl ?_
              refine s_pick (L' := [(0, .ref a0), (1, .int i1), (2, .int i2), (3, .int i3), (4, .int i4), (5, .int (-1 : Int32)), (6, .int (-1 : Int32)), (7, .int (-1 : Int32))]) [0, 1, 2, 3, 4, 5, 6, 7] rfl ?_
              exact v_X9_forOne_57 d h_a0 h
            · rw [if_neg c45] at h
              refine e_bipush (v := (-2 : Int32)) dX9_forOne_45 (by decide) ?_
              obtain rfl := Option.some.inj h
              exact s_ret rfl ⟨_, rfl, rfl⟩ dX9_forOne_47
abbrev yy_X9_suffice : mm_Y := (yX9_suffice, cX9_suffice, 5, (some .boolean))
theorem dX9_suffice_0 : decode cX9_suffice 0 = .ok (.aload_n 0, 1) := by decide +kernel
theorem dX9_suffice_1 : decode cX9_suffice 1 = .ok (.invokevirtual 196, 3) := by decide +kernel
theorem dX9_suffice_4 : decode cX9_suffice 4 = .ok (.aload_n 0, 1) := by decide +kernel
theorem dX9_suffice_5 : decode cX9_suffice 5 = .ok (.getfield 77, 3) := by decide +kernel
theorem dX9_suffice_8 : decode cX9_suffice 8 = .ok (.iload_n 1, 1) := by decide +kernel
theorem dX9_suffice_9 : decode cX9_suffice 9 = .ok (.putfield 244, 3) := by decide +kernel
theorem dX9_suffice_12 : decode cX9_suffice 12 = .ok (.iconst 0, 1) := by decide +kernel
theorem dX9_suffice_13 : decode cX9_suffice 13 = .ok (.istore_n 3, 1) := by decide +kernel
theorem dX9_suffice_14 : decode cX9_suffice 14 = .ok (.iload_n 3, 1) := by decide +kernel
theorem dX9_suffice_15 : decode cX9_suffice 15 = .ok (.iload_n 2, 1) := by decide +kernel
theorem dX9_suffice_16 : decode cX9_suffice 16 = .ok (.if_icmp .ge 61, 3) := by decide +kernel
theorem dX9_suffice_19 : decode cX9_suffice 19 = .ok (.aload_n 0, 1) := by decide +kernel
theorem dX9_suffice_20 : decode cX9_suffice 20 = .ok (.getfield 77, 3) := by decide +kernel
theorem dX9_suffice_23 : decode cX9_suffice 23 = .ok (.iconst 1, 1) := by decide +kernel
theorem dX9_suffice_24 : decode cX9_suffice 24 = .ok (.invokevirtual 199, 3) := by decide +kernel
theorem dX9_suffice_27 : decode cX9_suffice 27 = .ok (.iconst 0, 1) := by decide +kernel
theorem dX9_suffice_28 : decode cX9_suffice 28 = .ok (.istore 4, 2) := by decide +kernel
theorem dX9_suffice_30 : decode cX9_suffice 30 = .ok (.iload 4, 2) := by decide +kernel
theorem dX9_suffice_32 : decode cX9_suffice 32 = .ok (.aload_n 0, 1) := by decide +kernel
theorem dX9_suffice_33 : decode cX9_suffice 33 = .ok (.getfield 50, 3) := by decide +kernel
theorem dX9_suffice_36 : decode cX9_suffice 36 = .ok (.getfield 71, 3) := by decide +kernel
theorem dX9_suffice_39 : decode cX9_suffice 39 = .ok (.getfield 128, 3) := by decide +kernel
theorem dX9_suffice_42 : decode cX9_suffice 42 = .ok (.if_icmp .ge 29, 3) := by decide +kernel
theorem dX9_suffice_45 : decode cX9_suffice 45 = .ok (.aload_n 0, 1) := by decide +kernel
theorem dX9_suffice_46 : decode cX9_suffice 46 = .ok (.getfield 77, 3) := by decide +kernel
theorem dX9_suffice_49 : decode cX9_suffice 49 = .ok (.getfield 202, 3) := by decide +kernel
theorem dX9_suffice_52 : decode cX9_suffice 52 = .ok (.getfield 142, 3) := by decide +kernel
theorem dX9_suffice_55 : decode cX9_suffice 55 = .ok (.iload 4, 2) := by decide +kernel
theorem dX9_suffice_57 : decode cX9_suffice 57 = .ok (.iaload, 1) := by decide +kernel
theorem dX9_suffice_58 : decode cX9_suffice 58 = .ok (.bipush 40, 2) := by decide +kernel
theorem dX9_suffice_60 : decode cX9_suffice 60 = .ok (.if_icmp .le 5, 3) := by decide +kernel
theorem dX9_suffice_63 : decode cX9_suffice 63 = .ok (.iconst 0, 1) := by decide +kernel
theorem dX9_suffice_64 : decode cX9_suffice 64 = .ok (.ireturn, 1) := by decide +kernel
theorem dX9_suffice_65 : decode cX9_suffice 65 = .ok (.iinc 4 1, 3) := by decide +kernel
theorem dX9_suffice_68 : decode cX9_suffice 68 = .ok (.goto (-38), 3) := by decide +kernel
theorem dX9_suffice_71 : decode cX9_suffice 71 = .ok (.iinc 3 1, 3) := by decide +kernel
theorem dX9_suffice_74 : decode cX9_suffice 74 = .ok (.goto (-60), 3) := by decide +kernel
theorem dX9_suffice_77 : decode cX9_suffice 77 = .ok (.iconst 1, 1) := by decide +kernel
theorem dX9_suffice_78 : decode cX9_suffice 78 = .ok (.ireturn, 1) := by decide +kernel
def f_X9_suffice_30 (k14 : (Int32) → mm_S → Option (Int32 × mm_S)) (a0 : Nat) (i2 : Int32) (i3 : Int32) (i4 : Int32) (σ : mm_S) : Option (Int32 × mm_S) :=
  lp lpN (fun (k30 : (Int32) → mm_S → Option (Int32 × mm_S)) (v : Int32) (σ : mm_S) =>
    if (σ.1 (26 + 1) 3) ≤ v then
      lt (i3 + Int32.ofInt (1)) fun x2 =>
      k14 x2 σ
    else
      gd v 6 <|
      if (σ.1 (201 + 1) v.toNatClampNeg) ≤ (40 : Int32) then
        lt (v + Int32.ofInt (1)) fun x6 =>
        k30 x6 σ
      else
        some ((0 : Int32), σ)) i4 σ
theorem v_X9_suffice_30 {g : mm_G} (d : Nat) {k14 : (Int32) → mm_S → Option (Int32 × mm_S)} {a0 : Nat} {i2 : Int32} {i3 : Int32} {i4 : Int32} {σ : mm_S} {res : Int32 × mm_S} (H14 : ∀ v σ, k14 v σ = some res → SV g (d + 5) yy_X9_suffice 14 [(0, .ref a0), (2, .int i2), (3, .int v)] [] σ (.int res.1) res.2) (h_a0 : (mm_K a0).1 = 9) (h : f_X9_suffice_30 k14 a0 i2 i3 i4 σ = some res) : SV g (d + 5) yy_X9_suffice 30 [(0, .ref a0), (2, .int i2), (3, .int i3), (4, .int i4)] [] σ (.int res.1) res.2 := by
  unfold f_X9_suffice_30 at h
  refine lp_ind (P := fun v σ => SV g (d + 5) yy_X9_suffice 30 [(0, .ref a0), (2, .int i2), (3, .int i3), (4, .int v)] [] σ (.int res.1) res.2) (fun k30 H30 v σ h => ?_) _ i4 σ h
  refine e_iload 3 dX9_suffice_30  rfl ?_
  refine e_aload_n 0 dX9_suffice_32 rfl rfl ?_
  refine s_getr dX9_suffice_33 fl_RX9_50 h_a0 (r_9_5 h_a0).1 ?_
  refine s_getr dX9_suffice_36 fl_RX9_71 (ka_1 (r_9_5 (w := 0) h_a0).2) (r_8_0 (ka_1 (r_9_5 (w := 0) h_a0).2)).1 ?_
  refine s_geti dX9_suffice_39 fl_RX9_128 (ka_1 (r_8_0 (w := 0) (ka_1 (r_9_5 (w := 0) h_a0).2)).2) ?_
  refine e_icmp_ge 71 dX9_suffice_42 (by decide) (fun c1 => ?_) (fun c1 => ?_)
  · rw [if_pos c1] at h
    obtain ⟨x2, q3, h⟩ := lt_some h
    refine e_iinc (v := x2) (L' := [(0, .ref a0), (2, .int i2), (3, .int x2), (4, .int v)]) 2 dX9_suffice_71 rfl q3.symm (by decide) rfl ?_
    refine e_goto 14 dX9_suffice_74 (by decide) ?_
    refine s_pick (L' := [(0, .ref a0), (2, .int i2), (3, .int x2)]) [0, 1, 2] rfl ?_
    exact H14 x2 σ h
  · rw [if_neg c1] at h
    refine e_aload_n 0 dX9_suffice_45 rfl rfl ?_
    refine s_getr dX9_suffice_46 fl_RX9_77 h_a0 (r_9_9 h_a0).1 ?_
    refine s_getr dX9_suffice_49 fl_RX9_202 (ka_1 (r_9_9 (w := 0) h_a0).2) (r_7_1 (ka_1 (r_9_9 (w := 0) h_a0).2)).1 ?_
    refine s_getr dX9_suffice_52 fl_RX9_142 (ka_1 (r_7_1 (w := 0) (ka_1 (r_9_9 (w := 0) h_a0).2)).2) (r_2_2 (ka_1 (r_7_1 (w := 0) (ka_1 (r_9_9 (w := 0) h_a0).2)).2)).1 ?_
    refine e_iload 3 dX9_suffice_55  rfl ?_
    obtain ⟨q4, h⟩ := gd_some h
    refine s_iald dX9_suffice_57 (r_2_2 (w := 0) (ka_1 (r_7_1 (w := 0) (ka_1 (r_9_9 (w := 0) h_a0).2)).2)).2 q4 ?_
    refine e_bipush (v := (40 : Int32)) dX9_suffice_58 (by decide) ?_
    refine e_icmp_le 65 dX9_suffice_60 (by decide) (fun c5 => ?_) (fun c5 => ?_)
    · rw [if_pos c5] at h
      obtain ⟨x6, q7, h⟩ := lt_some h
      refine e_iinc (v := x6) (L' := [(0, .ref a0), (2, .int i2), (3, .int i3), (4, .int x6)]) 3 dX9_suffice_65 rfl q7.symm (by decide) rfl ?_
      refine e_goto 30 dX9_suffice_68 (by decide) ?_
      refine s_pick (L' := [(0, .ref a0), (2, .int i2), (3, .int i3), (4, .int x6)]) [0, 1, 2, 3] rfl ?_
      exact H30 x6 σ h
    · rw [if_neg c5] at h
      refine e_iconst (v := (0 : Int32)) dX9_suffice_63 (by decide) ?_
      obtain rfl := Option.some.inj h
      exact s_ret rfl ⟨_, rfl, nb1 (Or.inl rfl)⟩ dX9_suffice_64
def f_X9_suffice_14 (a0 : Nat) (i2 : Int32) (i3 : Int32) (σ : mm_S) : Option (Int32 × mm_S) :=
  lp lpN (fun (k14 : (Int32) → mm_S → Option (Int32 × mm_S)) (v : Int32) (σ : mm_S) =>
    if i2 ≤ v then
      some ((1 : Int32), σ)
    else
      bv (f_X7_passHours 200 (1 : Int32) σ) fun σ10 =>
      f_X9_suffice_30 k14 a0 i2 v (0 : Int32) σ10) i3 σ
theorem v_X9_suffice_14 {g : mm_G} (d : Nat) {a0 : Nat} {i2 : Int32} {i3 : Int32} {σ : mm_S} {res : Int32 × mm_S}  (h_a0 : (mm_K a0).1 = 9) (h : f_X9_suffice_14 a0 i2 i3 σ = some res) : SV g (d + 5) yy_X9_suffice 14 [(0, .ref a0), (2, .int i2), (3, .int i3)] [] σ (.int res.1) res.2 := by
  unfold f_X9_suffice_14 at h
  refine lp_ind (P := fun v σ => SV g (d + 5) yy_X9_suffice 14 [(0, .ref a0), (2, .int i2), (3, .int v)] [] σ (.int res.1) res.2) (fun k14 H14 v σ h => ?_) _ i3 σ h
  refine e_iload_n 2 dX9_suffice_14 rfl rfl ?_
  refine e_iload_n 1 dX9_suffice_15 rfl rfl ?_
  refine e_icmp_ge 77 dX9_suffice_16 (by decide) (fun c8 => ?_) (fun c8 => ?_)
  · rw [if_pos c8] at h
    refine e_iconst (v := (1 : Int32)) dX9_suffice_77 (by decide) ?_
    obtain rfl := Option.some.inj h
    exact s_ret rfl ⟨_, rfl, nb1 (Or.inr rfl)⟩ dX9_suffice_78
  · rw [if_neg c8] at h
    refine e_aload_n 0 dX9_suffice_19 rfl rfl ?_
    refine s_getr dX9_suffice_20 fl_RX9_77 h_a0 (r_9_9 h_a0).1 ?_
    refine e_iconst (v := (1 : Int32)) dX9_suffice_23 (by decide) ?_
    obtain ⟨σ10, q9, h⟩ := bv_some h
    refine s_callVv [.int (1 : Int32)] dX9_suffice_24 ml_RX9_199 (ka_1 (r_9_9 (w := 0) h_a0).2) rfl rfl (v_X7_passHours (d + 0) (ka_1 (r_9_9 (w := 0) h_a0).2) q9) (Nat.le_of_ble_eq_true rfl) ?_
    refine e_iconst (v := (0 : Int32)) dX9_suffice_27 (by decide) ?_
    refine e_istore (L' := [(0, .ref a0), (2, .int i2), (3, .int v), (4, .int (0 : Int32))]) dX9_suffice_28  (by decide) rfl ?_
    refine s_pick (L' := [(0, .ref a0), (2, .int i2), (3, .int v), (4, .int (0 : Int32))]) [0, 1, 2, 3] rfl ?_
    exact v_X9_suffice_30 d H14 h_a0 h
def f_X9_suffice (a0 : Nat) (i1 : Int32) (i2 : Int32) (σ : mm_S) : Option (Int32 × mm_S) :=
    bv (f_X9_walkFromNow a0 σ) fun σ16 =>
    lt (su_i σ16 200 3 i1) fun σ17 =>
    f_X9_suffice_14 a0 i2 (0 : Int32) σ17
theorem v_X9_suffice {g : mm_G} (d : Nat) {a0 : Nat} {i1 : Int32} {i2 : Int32} {σ : mm_S} {res : Int32 × mm_S} (h_a0 : (mm_K a0).1 = 9) (h : f_X9_suffice a0 i1 i2 σ = some res) : SM g (d + 5) yy_X9_suffice [.ref a0, .int i1, .int i2] σ (.int res.1) res.2 := by
  refine s_of (by decide) (Nat.le_of_ble_eq_true rfl) (L := [(0, .ref a0), (1, .int i1), (2, .int i2)]) rfl ?_
  unfold f_X9_suffice at h
  refine e_aload_n 0 dX9_suffice_0 rfl rfl ?_
  obtain ⟨σ16, q15, h⟩ := bv_some h
  refine s_callVv [] dX9_suffice_1 ml_RX9_196 h_a0 rfl rfl (v_X9_walkFromNow (d + 1) h_a0 q15) (Nat.le_of_ble_eq_true rfl) ?_
  refine e_aload_n 0 dX9_suffice_4 rfl rfl ?_
  refine s_getr dX9_suffice_5 fl_RX9_77 h_a0 (r_9_9 h_a0).1 ?_
  refine e_iload_n 1 dX9_suffice_8 rfl rfl ?_
  refine s_puti dX9_suffice_9 fl_RX9_244 (ka_1 (r_9_9 (w := 0) h_a0).2) rfl rfl rfl ?_
  obtain ⟨σ17, q18, h⟩ := lt_some h
  refine s_nms q18 ?_
  refine e_iconst (v := (0 : Int32)) dX9_suffice_12 (by decide) ?_
  refine e_istore_n (L' := [(0, .ref a0), (1, .int i1), (2, .int i2), (3, .int (0 : Int32))]) dX9_suffice_13 rfl (by decide) rfl ?_
  refine s_pick (L' := [(0, .ref a0), (2, .int i2), (3, .int (0 : Int32))]) [0, 2, 3] rfl ?_
  exact v_X9_suffice_14 d h_a0 h
abbrev yy_X9_torches : mm_Y := (yX9_torches, cX9_torches, 3, (some .int))
theorem dX9_torches_0 : decode cX9_torches 0 = .ok (.aload_n 0, 1) := by decide +kernel
theorem dX9_torches_1 : decode cX9_torches 1 = .ok (.getfield 50, 3) := by decide +kernel
theorem dX9_torches_4 : decode cX9_torches 4 = .ok (.getfield 71, 3) := by decide +kernel
theorem dX9_torches_7 : decode cX9_torches 7 = .ok (.getfield 188, 3) := by decide +kernel
theorem dX9_torches_10 : decode cX9_torches 10 = .ok (.ifCond .eq 14, 3) := by decide +kernel
theorem dX9_torches_13 : decode cX9_torches 13 = .ok (.iload_n 1, 1) := by decide +kernel
theorem dX9_torches_14 : decode cX9_torches 14 = .ok (.iconst 1, 1) := by decide +kernel
theorem dX9_torches_15 : decode cX9_torches 15 = .ok (.if_icmp .lt 9, 3) := by decide +kernel
theorem dX9_torches_18 : decode cX9_torches 18 = .ok (.iload_n 1, 1) := by decide +kernel
theorem dX9_torches_19 : decode cX9_torches 19 = .ok (.bipush 60, 2) := by decide +kernel
theorem dX9_torches_21 : decode cX9_torches 21 = .ok (.if_icmp .le 5, 3) := by decide +kernel
theorem dX9_torches_24 : decode cX9_torches 24 = .ok (.iconst (-1), 1) := by decide +kernel
theorem dX9_torches_25 : decode cX9_torches 25 = .ok (.ireturn, 1) := by decide +kernel
theorem dX9_torches_26 : decode cX9_torches 26 = .ok (.iconst 0, 1) := by decide +kernel
theorem dX9_torches_27 : decode cX9_torches 27 = .ok (.istore_n 2, 1) := by decide +kernel
theorem dX9_torches_28 : decode cX9_torches 28 = .ok (.iload_n 2, 1) := by decide +kernel
theorem dX9_torches_29 : decode cX9_torches 29 = .ok (.bipush 7, 2) := by decide +kernel
theorem dX9_torches_31 : decode cX9_torches 31 = .ok (.if_icmp .gt 20, 3) := by decide +kernel
theorem dX9_torches_34 : decode cX9_torches 34 = .ok (.aload_n 0, 1) := by decide +kernel
theorem dX9_torches_35 : decode cX9_torches 35 = .ok (.iload_n 2, 1) := by decide +kernel
theorem dX9_torches_36 : decode cX9_torches 36 = .ok (.iload_n 1, 1) := by decide +kernel
theorem dX9_torches_37 : decode cX9_torches 37 = .ok (.invokevirtual 241, 3) := by decide +kernel
theorem dX9_torches_40 : decode cX9_torches 40 = .ok (.ifCond .eq 5, 3) := by decide +kernel
theorem dX9_torches_43 : decode cX9_torches 43 = .ok (.iload_n 2, 1) := by decide +kernel
theorem dX9_torches_44 : decode cX9_torches 44 = .ok (.ireturn, 1) := by decide +kernel
theorem dX9_torches_45 : decode cX9_torches 45 = .ok (.iinc 2 1, 3) := by decide +kernel
theorem dX9_torches_48 : decode cX9_torches 48 = .ok (.goto (-20), 3) := by decide +kernel
theorem dX9_torches_51 : decode cX9_torches 51 = .ok (.bipush (-2), 2) := by decide +kernel
theorem dX9_torches_53 : decode cX9_torches 53 = .ok (.ireturn, 1) := by decide +kernel
def f_X9_torches_28 (a0 : Nat) (i1 : Int32) (i2 : Int32) (σ : mm_S) : Option (Int32 × mm_S) :=
  lp lpN (fun (k28 : (Int32) → mm_S → Option (Int32 × mm_S)) (v : Int32) (σ : mm_S) =>
    if (7 : Int32) < v then
      some ((-2 : Int32), σ)
    else
      bd (f_X9_suffice a0 v i1 σ) fun r4 σ3 =>
      if r4 = 0 then
        lt (v + Int32.ofInt (1)) fun x6 =>
        k28 x6 σ3
      else
        some (v, σ3)) i2 σ
theorem v_X9_torches_28 {g : mm_G} (d : Nat) {a0 : Nat} {i1 : Int32} {i2 : Int32} {σ : mm_S} {res : Int32 × mm_S}  (h_a0 : (mm_K a0).1 = 9) (h : f_X9_torches_28 a0 i1 i2 σ = some res) : SV g (d + 6) yy_X9_torches 28 [(0, .ref a0), (1, .int i1), (2, .int i2)] [] σ (.int res.1) res.2 := by
  unfold f_X9_torches_28 at h
  refine lp_ind (P := fun v σ => SV g (d + 6) yy_X9_torches 28 [(0, .ref a0), (1, .int i1), (2, .int v)] [] σ (.int res.1) res.2) (fun k28 H28 v σ h => ?_) _ i2 σ h
  refine e_iload_n 2 dX9_torches_28 rfl rfl ?_
  refine e_bipush (v := (7 : Int32)) dX9_torches_29 (by decide) ?_
  refine e_icmp_gt 51 dX9_torches_31 (by decide) (fun c1 => ?_) (fun c1 => ?_)
  · rw [if_pos c1] at h
    refine e_bipush (v := (-2 : Int32)) dX9_torches_51 (by decide) ?_
    obtain rfl := Option.some.inj h
    exact s_ret rfl ⟨_, rfl, rfl⟩ dX9_torches_53
  · rw [if_neg c1] at h
    refine e_aload_n 0 dX9_torches_34 rfl rfl ?_
    refine e_iload_n 2 dX9_torches_35 rfl rfl ?_
    refine e_iload_n 1 dX9_torches_36 rfl rfl ?_
    obtain ⟨r4, σ3, q2, h⟩ := bd_some h
    refine s_callVi [.int v, .int i1] dX9_torches_37 ml_RX9_241 h_a0 ⟨_, rfl, by decide⟩ rfl (v_X9_suffice (d + 0) h_a0 q2) (Nat.le_of_ble_eq_true rfl) ?_
    refine e_if_eq 45 dX9_torches_40 (by decide) (fun c5 => ?_) (fun c5 => ?_)
    · rw [if_pos c5] at h
      obtain ⟨x6, q7, h⟩ := lt_some h
      refine e_iinc (v := x6) (L' := [(0, .ref a0), (1, .int i1), (2, .int x6)]) 2 dX9_torches_45 rfl q7.symm (by decide) rfl ?_
      refine e_goto 28 dX9_torches_48 (by decide) ?_
      refine s_pick (L' := [(0, .ref a0), (1, .int i1), (2, .int x6)]) [0, 1, 2] rfl ?_
      exact H28 x6 σ3 h
    · rw [if_neg c5] at h
      refine e_iload_n 2 dX9_torches_43 rfl rfl ?_
      obtain rfl := Option.some.inj h
      exact s_ret rfl ⟨_, rfl, rfl⟩ dX9_torches_44
def f_X9_torches (a0 : Nat) (i1 : Int32) (σ : mm_S) : Option (Int32 × mm_S) :=
    if (σ.1 (26 + 1) 0) = 0 then
      some ((-1 : Int32), σ)
    else
      if i1 < (1 : Int32) then
        some ((-1 : Int32), σ)
      else
        if i1 ≤ (60 : Int32) then
          f_X9_torches_28 a0 i1 (0 : Int32) σ
        else
          some ((-1 : Int32), σ)
theorem v_X9_torches {g : mm_G} (d : Nat) {a0 : Nat} {i1 : Int32} {σ : mm_S} {res : Int32 × mm_S} (h_a0 : (mm_K a0).1 = 9) (h : f_X9_torches a0 i1 σ = some res) : SM g (d + 6) yy_X9_torches [.ref a0, .int i1] σ (.int res.1) res.2 := by
  refine s_of (by decide) (Nat.le_of_ble_eq_true rfl) (L := [(0, .ref a0), (1, .int i1)]) rfl ?_
  unfold f_X9_torches at h
  refine e_aload_n 0 dX9_torches_0 rfl rfl ?_
  refine s_getr dX9_torches_1 fl_RX9_50 h_a0 (r_9_5 h_a0).1 ?_
  refine s_getr dX9_torches_4 fl_RX9_71 (ka_1 (r_9_5 (w := 0) h_a0).2) (r_8_0 (ka_1 (r_9_5 (w := 0) h_a0).2)).1 ?_
  refine s_geti dX9_torches_7 fl_RX9_188 (ka_1 (r_8_0 (w := 0) (ka_1 (r_9_5 (w := 0) h_a0).2)).2) ?_
  refine e_if_eq 24 dX9_torches_10 (by decide) (fun c11 => ?_) (fun c11 => ?_)
  · rw [if_pos c11] at h
    refine e_iconst (v := (-1 : Int32)) dX9_torches_24 (by decide) ?_
    obtain rfl := Option.some.inj h
    exact s_ret rfl ⟨_, rfl, rfl⟩ dX9_torches_25
  · rw [if_neg c11] at h
    refine e_iload_n 1 dX9_torches_13 rfl rfl ?_
    refine e_iconst (v := (1 : Int32)) dX9_torches_14 (by decide) ?_
    refine e_icmp_lt 24 dX9_torches_15 (by decide) (fun c12 => ?_) (fun c12 => ?_)
    · rw [if_pos c12] at h
      refine e_iconst (v := (-1 : Int32)) dX9_torches_24 (by decide) ?_
      obtain rfl := Option.some.inj h
      exact s_ret rfl ⟨_, rfl, rfl⟩ dX9_torches_25
    · rw [if_neg c12] at h
      refine e_iload_n 1 dX9_torches_18 rfl rfl ?_
      refine e_bipush (v := (60 : Int32)) dX9_torches_19 (by decide) ?_
      refine e_icmp_le 26 dX9_torches_21 (by decide) (fun c13 => ?_) (fun c13 => ?_)
      · rw [if_pos c13] at h
        refine e_iconst (v := (0 : Int32)) dX9_torches_26 (by decide) ?_
        refine e_istore_n (L' := [(0, .ref a0), (1, .int i1), (2, .int (0 : Int32))]) dX9_torches_27 rfl (by decide) rfl ?_
        refine s_pick (L' := [(0, .ref a0), (1, .int i1), (2, .int (0 : Int32))]) [0, 1, 2] rfl ?_
        exact v_X9_torches_28 d h_a0 h
      · rw [if_neg c13] at h
        refine e_iconst (v := (-1 : Int32)) dX9_torches_24 (by decide) ?_
        obtain rfl := Option.some.inj h
        exact s_ret rfl ⟨_, rfl, rfl⟩ dX9_torches_25
