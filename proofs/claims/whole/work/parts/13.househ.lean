abbrev yy_X9_note : mm_Y := (yX9_note, cX9_note, 4, (some .int))
theorem dX9_note_0 : decode cX9_note 0 = .ok (.iload_n 1, 1) := by decide +kernel
theorem dX9_note_1 : decode cX9_note 1 = .ok (.iconst (-1), 1) := by decide +kernel
theorem dX9_note_2 : decode cX9_note 2 = .ok (.if_icmp .ne 16, 3) := by decide +kernel
theorem dX9_note_5 : decode cX9_note 5 = .ok (.aload_n 0, 1) := by decide +kernel
theorem dX9_note_6 : decode cX9_note 6 = .ok (.getfield 50, 3) := by decide +kernel
theorem dX9_note_9 : decode cX9_note 9 = .ok (.getfield 116, 3) := by decide +kernel
theorem dX9_note_12 : decode cX9_note 12 = .ok (.iconst 0, 1) := by decide +kernel
theorem dX9_note_13 : decode cX9_note 13 = .ok (.putfield 120, 3) := by decide +kernel
theorem dX9_note_16 : decode cX9_note 16 = .ok (.iconst 0, 1) := by decide +kernel
theorem dX9_note_17 : decode cX9_note 17 = .ok (.ireturn, 1) := by decide +kernel
theorem dX9_note_18 : decode cX9_note 18 = .ok (.iload_n 1, 1) := by decide +kernel
theorem dX9_note_19 : decode cX9_note 19 = .ok (.ifCond .lt 41, 3) := by decide +kernel
theorem dX9_note_22 : decode cX9_note 22 = .ok (.iload_n 1, 1) := by decide +kernel
theorem dX9_note_23 : decode cX9_note 23 = .ok (.bipush 60, 2) := by decide +kernel
theorem dX9_note_25 : decode cX9_note 25 = .ok (.if_icmp .gt 35, 3) := by decide +kernel
theorem dX9_note_28 : decode cX9_note 28 = .ok (.aload_n 0, 1) := by decide +kernel
theorem dX9_note_29 : decode cX9_note 29 = .ok (.iload_n 2, 1) := by decide +kernel
theorem dX9_note_30 : decode cX9_note 30 = .ok (.invokevirtual 138, 3) := by decide +kernel
theorem dX9_note_33 : decode cX9_note 33 = .ok (.ifCond .eq 27, 3) := by decide +kernel
theorem dX9_note_36 : decode cX9_note 36 = .ok (.iload_n 3, 1) := by decide +kernel
theorem dX9_note_37 : decode cX9_note 37 = .ok (.ifCond .lt 23, 3) := by decide +kernel
theorem dX9_note_40 : decode cX9_note 40 = .ok (.iload_n 3, 1) := by decide +kernel
theorem dX9_note_41 : decode cX9_note 41 = .ok (.iconst 1, 1) := by decide +kernel
theorem dX9_note_42 : decode cX9_note 42 = .ok (.if_icmp .gt 18, 3) := by decide +kernel
theorem dX9_note_45 : decode cX9_note 45 = .ok (.aload_n 0, 1) := by decide +kernel
theorem dX9_note_46 : decode cX9_note 46 = .ok (.getfield 50, 3) := by decide +kernel
theorem dX9_note_49 : decode cX9_note 49 = .ok (.getfield 116, 3) := by decide +kernel
theorem dX9_note_52 : decode cX9_note 52 = .ok (.getfield 120, 3) := by decide +kernel
theorem dX9_note_55 : decode cX9_note 55 = .ok (.bipush 10, 2) := by decide +kernel
theorem dX9_note_57 : decode cX9_note 57 = .ok (.if_icmp .lt 6, 3) := by decide +kernel
theorem dX9_note_60 : decode cX9_note 60 = .ok (.bipush (-2), 2) := by decide +kernel
theorem dX9_note_62 : decode cX9_note 62 = .ok (.ireturn, 1) := by decide +kernel
theorem dX9_note_63 : decode cX9_note 63 = .ok (.aload_n 0, 1) := by decide +kernel
theorem dX9_note_64 : decode cX9_note 64 = .ok (.getfield 50, 3) := by decide +kernel
theorem dX9_note_67 : decode cX9_note 67 = .ok (.getfield 116, 3) := by decide +kernel
theorem dX9_note_70 : decode cX9_note 70 = .ok (.iload_n 1, 1) := by decide +kernel
theorem dX9_note_71 : decode cX9_note 71 = .ok (.iload_n 2, 1) := by decide +kernel
theorem dX9_note_72 : decode cX9_note 72 = .ok (.iload_n 3, 1) := by decide +kernel
theorem dX9_note_73 : decode cX9_note 73 = .ok (.invokevirtual 267, 3) := by decide +kernel
theorem dX9_note_76 : decode cX9_note 76 = .ok (.aload_n 0, 1) := by decide +kernel
theorem dX9_note_77 : decode cX9_note 77 = .ok (.getfield 50, 3) := by decide +kernel
theorem dX9_note_80 : decode cX9_note 80 = .ok (.getfield 116, 3) := by decide +kernel
theorem dX9_note_83 : decode cX9_note 83 = .ok (.getfield 120, 3) := by decide +kernel
theorem dX9_note_86 : decode cX9_note 86 = .ok (.ireturn, 1) := by decide +kernel
def f_X9_note (a0 : Nat) (i1 : Int32) (i2 : Int32) (i3 : Int32) (σ : mm_S) : Option (Int32 × mm_S) :=
    if i1 = (-1 : Int32) then
      lt (su_i σ (26 + 10) 0 (0 : Int32)) fun σ27 =>
      some ((0 : Int32), σ27)
    else
      if i1 < 0 then
        some ((-2 : Int32), σ)
      else
        if (60 : Int32) < i1 then
          some ((-2 : Int32), σ)
        else
          bd (f_X9_isLodger a0 i2 σ) fun r20 σ19 =>
          if r20 = 0 then
            some ((-2 : Int32), σ19)
          else
            if i3 < 0 then
              some ((-2 : Int32), σ19)
            else
              if (1 : Int32) < i3 then
                some ((-2 : Int32), σ19)
              else
                if (σ19.1 (26 + 10) 0) < (10 : Int32) then
                  bv (f_X3_add (26 + 10) i1 i2 i3 σ19) fun σ26 =>
                  some ((σ26.1 (26 + 10) 0), σ26)
                else
                  some ((-2 : Int32), σ19)
theorem v_X9_note {g : mm_G} (d : Nat) {a0 : Nat} {i1 : Int32} {i2 : Int32} {i3 : Int32} {σ : mm_S} {res : Int32 × mm_S} (h_a0 : (mm_K a0).1 = 9) (h : f_X9_note a0 i1 i2 i3 σ = some res) : SM g (d + 1) yy_X9_note [.ref a0, .int i1, .int i2, .int i3] σ (.int res.1) res.2 := by
  refine s_of (by decide) (Nat.le_of_ble_eq_true rfl) (L := [(0, .ref a0), (1, .int i1), (2, .int i2), (3, .int i3)]) rfl ?_
  unfold f_X9_note at h
  refine e_iload_n 1 dX9_note_0 rfl rfl ?_
  refine e_iconst (v := (-1 : Int32)) dX9_note_1 (by decide) ?_
  refine e_icmp_ne 18 dX9_note_2 (by decide) (fun c15 => ?_) (fun c15 => ?_)
  · rw [if_neg c15] at h
    refine e_iload_n 1 dX9_note_18 rfl rfl ?_
    refine e_if_lt 60 dX9_note_19 (by decide) (fun c16 => ?_) (fun c16 => ?_)
    · rw [if_pos c16] at h
      refine e_bipush (v := (-2 : Int32)) dX9_note_60 (by decide) ?_
      obtain rfl := Option.some.inj h
      exact s_ret rfl ⟨_, rfl, rfl⟩ dX9_note_62
    · rw [if_neg c16] at h
      refine e_iload_n 1 dX9_note_22 rfl rfl ?_
      refine e_bipush (v := (60 : Int32)) dX9_note_23 (by decide) ?_
      refine e_icmp_gt 60 dX9_note_25 (by decide) (fun c17 => ?_) (fun c17 => ?_)
      · rw [if_pos c17] at h
        refine e_bipush (v := (-2 : Int32)) dX9_note_60 (by decide) ?_
        obtain rfl := Option.some.inj h
        exact s_ret rfl ⟨_, rfl, rfl⟩ dX9_note_62
      · rw [if_neg c17] at h
        refine e_aload_n 0 dX9_note_28 rfl rfl ?_
        refine e_iload_n 2 dX9_note_29 rfl rfl ?_
        obtain ⟨r20, σ19, q18, h⟩ := bd_some h
        refine s_callVi [.int i2] dX9_note_30 ml_RX9_138 h_a0 ⟨_, rfl, by decide⟩ rfl (v_X9_isLodger (d + 0) h_a0 q18) (Nat.le_of_ble_eq_true rfl) ?_
        refine e_if_eq 60 dX9_note_33 (by decide) (fun c21 => ?_) (fun c21 => ?_)
        · rw [if_pos c21] at h
          refine e_bipush (v := (-2 : Int32)) dX9_note_60 (by decide) ?_
          obtain rfl := Option.some.inj h
          exact s_ret rfl ⟨_, rfl, rfl⟩ dX9_note_62
        · rw [if_neg c21] at h
          refine e_iload_n 3 dX9_note_36 rfl rfl ?_
          refine e_if_lt 60 dX9_note_37 (by decide) (fun c22 => ?_) (fun c22 => ?_)
          · rw [if_pos c22] at h
            refine e_bipush (v := (-2 : Int32)) dX9_note_60 (by decide) ?_
            obtain rfl := Option.some.inj h
            exact s_ret rfl ⟨_, rfl, rfl⟩ dX9_note_62
          · rw [if_neg c22] at h
            refine e_iload_n 3 dX9_note_40 rfl rfl ?_
            refine e_iconst (v := (1 : Int32)) dX9_note_41 (by decide) ?_
            refine e_icmp_gt 60 dX9_note_42 (by decide) (fun c23 => ?_) (fun c23 => ?_)
            · rw [if_pos c23] at h
              refine e_bipush (v := (-2 : Int32)) dX9_note_60 (by decide) ?_
              obtain rfl := Option.some.inj h
              exact s_ret rfl ⟨_, rfl, rfl⟩ dX9_note_62
            · rw [if_neg c23] at h
              refine e_aload_n 0 dX9_note_45 rfl rfl ?_
              refine s_getr dX9_note_46 fl_RX9_50 h_a0 (r_9_5 h_a0).1 ?_
              refine s_getr dX9_note_49 fl_RX9_116 (ka_1 (r_9_5 (w := 0) h_a0).2) (r_8_2 (ka_1 (r_9_5 (w := 0) h_a0).2)).1 ?_
              refine s_geti dX9_note_52 fl_RX9_120 (ka_1 (r_8_2 (w := 0) (ka_1 (r_9_5 (w := 0) h_a0).2)).2) ?_
              refine e_bipush (v := (10 : Int32)) dX9_note_55 (by decide) ?_
              refine e_icmp_lt 63 dX9_note_57 (by decide) (fun c24 => ?_) (fun c24 => ?_)
              · rw [if_pos c24] at h
                refine e_aload_n 0 dX9_note_63 rfl rfl ?_
                refine s_getr dX9_note_64 fl_RX9_50 h_a0 (r_9_5 h_a0).1 ?_
                refine s_getr dX9_note_67 fl_RX9_116 (ka_1 (r_9_5 (w := 0) h_a0).2) (r_8_2 (ka_1 (r_9_5 (w := 0) h_a0).2)).1 ?_
                refine e_iload_n 1 dX9_note_70 rfl rfl ?_
                refine e_iload_n 2 dX9_note_71 rfl rfl ?_
                refine e_iload_n 3 dX9_note_72 rfl rfl ?_
                obtain ⟨σ26, q25, h⟩ := bv_some h
                refine s_callVv [.int i1, .int i2, .int i3] dX9_note_73 ml_RX9_267 (ka_1 (r_8_2 (w := 0) (ka_1 (r_9_5 (w := 0) h_a0).2)).2) rfl rfl (v_X3_add (d + 0) (ka_1 (r_8_2 (w := 0) (ka_1 (r_9_5 (w := 0) h_a0).2)).2) q25) (Nat.le_of_ble_eq_true rfl) ?_
                refine e_aload_n 0 dX9_note_76 rfl rfl ?_
                refine s_getr dX9_note_77 fl_RX9_50 h_a0 (r_9_5 h_a0).1 ?_
                refine s_getr dX9_note_80 fl_RX9_116 (ka_1 (r_9_5 (w := 0) h_a0).2) (r_8_2 (ka_1 (r_9_5 (w := 0) h_a0).2)).1 ?_
                refine s_geti dX9_note_83 fl_RX9_120 (ka_1 (r_8_2 (w := 0) (ka_1 (r_9_5 (w := 0) h_a0).2)).2) ?_
                obtain rfl := Option.some.inj h
                exact s_ret rfl ⟨_, rfl, rfl⟩ dX9_note_86
              · rw [if_neg c24] at h
                refine e_bipush (v := (-2 : Int32)) dX9_note_60 (by decide) ?_
                obtain rfl := Option.some.inj h
                exact s_ret rfl ⟨_, rfl, rfl⟩ dX9_note_62
  · rw [if_pos c15] at h
    refine e_aload_n 0 dX9_note_5 rfl rfl ?_
    refine s_getr dX9_note_6 fl_RX9_50 h_a0 (r_9_5 h_a0).1 ?_
    refine s_getr dX9_note_9 fl_RX9_116 (ka_1 (r_9_5 (w := 0) h_a0).2) (r_8_2 (ka_1 (r_9_5 (w := 0) h_a0).2)).1 ?_
    refine e_iconst (v := (0 : Int32)) dX9_note_12 (by decide) ?_
    refine s_puti dX9_note_13 fl_RX9_120 (ka_1 (r_8_2 (w := 0) (ka_1 (r_9_5 (w := 0) h_a0).2)).2) rfl rfl rfl ?_
    obtain ⟨σ27, q28, h⟩ := lt_some h
    refine s_nms q28 ?_
    refine e_iconst (v := (0 : Int32)) dX9_note_16 (by decide) ?_
    obtain rfl := Option.some.inj h
    exact s_ret rfl ⟨_, rfl, rfl⟩ dX9_note_17
abbrev yy_X9_fittingRules : mm_Y := (yX9_fittingRules, cX9_fittingRules, 5, (some .int))
theorem dX9_fittingRules_0 : decode cX9_fittingRules 0 = .ok (.iconst 0, 1) := by decide +kernel
theorem dX9_fittingRules_1 : decode cX9_fittingRules 1 = .ok (.istore_n 1, 1) := by decide +kernel
theorem dX9_fittingRules_2 : decode cX9_fittingRules 2 = .ok (.iconst 0, 1) := by decide +kernel
theorem dX9_fittingRules_3 : decode cX9_fittingRules 3 = .ok (.istore_n 2, 1) := by decide +kernel
theorem dX9_fittingRules_4 : decode cX9_fittingRules 4 = .ok (.iload_n 2, 1) := by decide +kernel
theorem dX9_fittingRules_5 : decode cX9_fittingRules 5 = .ok (.aload_n 0, 1) := by decide +kernel
theorem dX9_fittingRules_6 : decode cX9_fittingRules 6 = .ok (.getfield 43, 3) := by decide +kernel
theorem dX9_fittingRules_9 : decode cX9_fittingRules 9 = .ok (.if_icmp .gt 94, 3) := by decide +kernel
theorem dX9_fittingRules_12 : decode cX9_fittingRules 12 = .ok (.iload_n 2, 1) := by decide +kernel
theorem dX9_fittingRules_13 : decode cX9_fittingRules 13 = .ok (.bipush 61, 2) := by decide +kernel
theorem dX9_fittingRules_15 : decode cX9_fittingRules 15 = .ok (.imul, 1) := by decide +kernel
theorem dX9_fittingRules_16 : decode cX9_fittingRules 16 = .ok (.istore_n 3, 1) := by decide +kernel
theorem dX9_fittingRules_17 : decode cX9_fittingRules 17 = .ok (.aload_n 0, 1) := by decide +kernel
theorem dX9_fittingRules_18 : decode cX9_fittingRules 18 = .ok (.getfield 77, 3) := by decide +kernel
theorem dX9_fittingRules_21 : decode cX9_fittingRules 21 = .ok (.aload_n 0, 1) := by decide +kernel
theorem dX9_fittingRules_22 : decode cX9_fittingRules 22 = .ok (.getfield 34, 3) := by decide +kernel
theorem dX9_fittingRules_25 : decode cX9_fittingRules 25 = .ok (.iload_n 2, 1) := by decide +kernel
theorem dX9_fittingRules_26 : decode cX9_fittingRules 26 = .ok (.aaload, 1) := by decide +kernel
theorem dX9_fittingRules_27 : decode cX9_fittingRules 27 = .ok (.invokevirtual 278, 3) := by decide +kernel
theorem dX9_fittingRules_30 : decode cX9_fittingRules 30 = .ok (.iconst 0, 1) := by decide +kernel
theorem dX9_fittingRules_31 : decode cX9_fittingRules 31 = .ok (.istore 4, 2) := by decide +kernel
theorem dX9_fittingRules_33 : decode cX9_fittingRules 33 = .ok (.iload 4, 2) := by decide +kernel
theorem dX9_fittingRules_35 : decode cX9_fittingRules 35 = .ok (.bipush 61, 2) := by decide +kernel
theorem dX9_fittingRules_37 : decode cX9_fittingRules 37 = .ok (.if_icmp .ge 36, 3) := by decide +kernel
theorem dX9_fittingRules_40 : decode cX9_fittingRules 40 = .ok (.aload_n 0, 1) := by decide +kernel
theorem dX9_fittingRules_41 : decode cX9_fittingRules 41 = .ok (.getfield 88, 3) := by decide +kernel
theorem dX9_fittingRules_44 : decode cX9_fittingRules 44 = .ok (.iload_n 3, 1) := by decide +kernel
theorem dX9_fittingRules_45 : decode cX9_fittingRules 45 = .ok (.iload 4, 2) := by decide +kernel
theorem dX9_fittingRules_47 : decode cX9_fittingRules 47 = .ok (.iadd, 1) := by decide +kernel
theorem dX9_fittingRules_48 : decode cX9_fittingRules 48 = .ok (.aload_n 0, 1) := by decide +kernel
theorem dX9_fittingRules_49 : decode cX9_fittingRules 49 = .ok (.getfield 77, 3) := by decide +kernel
theorem dX9_fittingRules_52 : decode cX9_fittingRules 52 = .ok (.getfield 202, 3) := by decide +kernel
theorem dX9_fittingRules_55 : decode cX9_fittingRules 55 = .ok (.getfield 174, 3) := by decide +kernel
theorem dX9_fittingRules_58 : decode cX9_fittingRules 58 = .ok (.iastore, 1) := by decide +kernel
theorem dX9_fittingRules_59 : decode cX9_fittingRules 59 = .ok (.aload_n 0, 1) := by decide +kernel
theorem dX9_fittingRules_60 : decode cX9_fittingRules 60 = .ok (.getfield 77, 3) := by decide +kernel
theorem dX9_fittingRules_63 : decode cX9_fittingRules 63 = .ok (.iconst 1, 1) := by decide +kernel
theorem dX9_fittingRules_64 : decode cX9_fittingRules 64 = .ok (.invokevirtual 199, 3) := by decide +kernel
theorem dX9_fittingRules_67 : decode cX9_fittingRules 67 = .ok (.iinc 4 1, 3) := by decide +kernel
theorem dX9_fittingRules_70 : decode cX9_fittingRules 70 = .ok (.goto (-37), 3) := by decide +kernel
theorem dX9_fittingRules_73 : decode cX9_fittingRules 73 = .ok (.aload_n 0, 1) := by decide +kernel
theorem dX9_fittingRules_74 : decode cX9_fittingRules 74 = .ok (.getfield 50, 3) := by decide +kernel
theorem dX9_fittingRules_77 : decode cX9_fittingRules 77 = .ok (.getfield 116, 3) := by decide +kernel
theorem dX9_fittingRules_80 : decode cX9_fittingRules 80 = .ok (.aload_n 0, 1) := by decide +kernel
theorem dX9_fittingRules_81 : decode cX9_fittingRules 81 = .ok (.getfield 88, 3) := by decide +kernel
theorem dX9_fittingRules_84 : decode cX9_fittingRules 84 = .ok (.iload_n 3, 1) := by decide +kernel
theorem dX9_fittingRules_85 : decode cX9_fittingRules 85 = .ok (.invokevirtual 281, 3) := by decide +kernel
theorem dX9_fittingRules_88 : decode cX9_fittingRules 88 = .ok (.ifCond .eq 9, 3) := by decide +kernel
theorem dX9_fittingRules_91 : decode cX9_fittingRules 91 = .ok (.iload_n 1, 1) := by decide +kernel
theorem dX9_fittingRules_92 : decode cX9_fittingRules 92 = .ok (.iconst 1, 1) := by decide +kernel
theorem dX9_fittingRules_93 : decode cX9_fittingRules 93 = .ok (.iload_n 2, 1) := by decide +kernel
theorem dX9_fittingRules_94 : decode cX9_fittingRules 94 = .ok (.ishl, 1) := by decide +kernel
theorem dX9_fittingRules_95 : decode cX9_fittingRules 95 = .ok (.ior, 1) := by decide +kernel
theorem dX9_fittingRules_96 : decode cX9_fittingRules 96 = .ok (.istore_n 1, 1) := by decide +kernel
theorem dX9_fittingRules_97 : decode cX9_fittingRules 97 = .ok (.iinc 2 1, 3) := by decide +kernel
theorem dX9_fittingRules_100 : decode cX9_fittingRules 100 = .ok (.goto (-96), 3) := by decide +kernel
theorem dX9_fittingRules_103 : decode cX9_fittingRules 103 = .ok (.iload_n 1, 1) := by decide +kernel
theorem dX9_fittingRules_104 : decode cX9_fittingRules 104 = .ok (.ireturn, 1) := by decide +kernel
def f_X9_fittingRules_33 (k4 : (Int32 × Int32) → mm_S → Option (Int32 × mm_S)) (a0 : Nat) (i1 : Int32) (i2 : Int32) (i3 : Int32) (i4 : Int32) (σ : mm_S) : Option (Int32 × mm_S) :=
  lp lpN (fun (k33 : (Int32) → mm_S → Option (Int32 × mm_S)) (v : Int32) (σ : mm_S) =>
    if (61 : Int32) ≤ v then
      bd (f_X3_areSo (26 + 10) 213 i3 σ) fun r4 σ3 =>
      if r4 = 0 then
        lt (i2 + Int32.ofInt (1)) fun x6 =>
        k4 (i1, x6) σ3
      else
        lt ((i1 ||| ((1 : Int32) <<< (i2 &&& 31)))) fun x8 =>
        lt (i2 + Int32.ofInt (1)) fun x10 =>
        k4 (x8, x10) σ3
    else
      gd (i3 + v) 427 <|
      lt (su_i σ 213 (i3 + v).toNatClampNeg (σ.1 201 1)) fun σ13 =>
      bv (f_X7_passHours 200 (1 : Int32) σ13) fun σ16 =>
      lt (v + Int32.ofInt (1)) fun x17 =>
      k33 x17 σ16) i4 σ
theorem v_X9_fittingRules_33 {g : mm_G} (d : Nat) {k4 : (Int32 × Int32) → mm_S → Option (Int32 × mm_S)} {a0 : Nat} {i1 : Int32} {i2 : Int32} {i3 : Int32} {i4 : Int32} {σ : mm_S} {res : Int32 × mm_S} (H4 : ∀ v σ, k4 v σ = some res → SV g (d + 5) yy_X9_fittingRules 4 [(0, .ref a0), (1, .int v.1), (2, .int v.2)] [] σ (.int res.1) res.2) (h_a0 : (mm_K a0).1 = 9) (h : f_X9_fittingRules_33 k4 a0 i1 i2 i3 i4 σ = some res) : SV g (d + 5) yy_X9_fittingRules 33 [(0, .ref a0), (1, .int i1), (2, .int i2), (3, .int i3), (4, .int i4)] [] σ (.int res.1) res.2 := by
  unfold f_X9_fittingRules_33 at h
  refine lp_ind (P := fun v σ => SV g (d + 5) yy_X9_fittingRules 33 [(0, .ref a0), (1, .int i1), (2, .int i2), (3, .int i3), (4, .int v)] [] σ (.int res.1) res.2) (fun k33 H33 v σ h => ?_) _ i4 σ h
  refine e_iload 4 dX9_fittingRules_33  rfl ?_
  refine e_bipush (v := (61 : Int32)) dX9_fittingRules_35 (by decide) ?_
  refine e_icmp_ge 73 dX9_fittingRules_37 (by decide) (fun c1 => ?_) (fun c1 => ?_)
  · rw [if_pos c1] at h
    refine e_aload_n 0 dX9_fittingRules_73 rfl rfl ?_
    refine s_getr dX9_fittingRules_74 fl_RX9_50 h_a0 (r_9_5 h_a0).1 ?_
    refine s_getr dX9_fittingRules_77 fl_RX9_116 (ka_1 (r_9_5 (w := 0) h_a0).2) (r_8_2 (ka_1 (r_9_5 (w := 0) h_a0).2)).1 ?_
    refine e_aload_n 0 dX9_fittingRules_80 rfl rfl ?_
    refine s_getr dX9_fittingRules_81 fl_RX9_88 h_a0 (r_9_12 h_a0).1 ?_
    refine e_iload_n 3 dX9_fittingRules_84 rfl rfl ?_
    obtain ⟨r4, σ3, q2, h⟩ := bd_some h
    refine s_callVi [.ref 213, .int i3] dX9_fittingRules_85 ml_RX9_281 (ka_1 (r_8_2 (w := 0) (ka_1 (r_9_5 (w := 0) h_a0).2)).2) ⟨_, rfl, by decide⟩ rfl (v_X3_areSo (d + 4) (ka_1 (r_8_2 (w := 0) (ka_1 (r_9_5 (w := 0) h_a0).2)).2) (ka_1 (r_9_12 (w := 0) h_a0).2) q2) (Nat.le_of_ble_eq_true rfl) ?_
    refine e_if_eq 97 dX9_fittingRules_88 (by decide) (fun c5 => ?_) (fun c5 => ?_)
    · rw [if_pos c5] at h
      obtain ⟨x6, q7, h⟩ := lt_some h
      refine e_iinc (v := x6) (L' := [(0, .ref a0), (1, .int i1), (2, .int x6), (3, .int i3), (4, .int v)]) 2 dX9_fittingRules_97 rfl q7.symm (by decide) rfl ?_
      refine e_goto 4 dX9_fittingRules_100 (by decide) ?_
      refine s_pick (L' := [(0, .ref a0), (1, .int i1), (2, .int x6)]) [0, 1, 2] rfl ?_
      exact H4 (i1, x6) σ3 h
    · rw [if_neg c5] at h
      refine e_iload_n 1 dX9_fittingRules_91 rfl rfl ?_
      refine e_iconst (v := (1 : Int32)) dX9_fittingRules_92 (by decide) ?_
      refine e_iload_n 2 dX9_fittingRules_93 rfl rfl ?_
      refine e_ishl dX9_fittingRules_94 ?_
      refine e_ior dX9_fittingRules_95 ?_
      obtain ⟨x8, q9, h⟩ := lt_some h
      refine s_nmi q9 ?_
      refine e_istore_n (L' := [(0, .ref a0), (1, .int x8), (2, .int i2), (3, .int i3), (4, .int v)]) dX9_fittingRules_96 rfl (by decide) rfl ?_
      obtain ⟨x10, q11, h⟩ := lt_some h
      refine e_iinc (v := x10) (L' := [(0, .ref a0), (1, .int x8), (2, .int x10), (3, .int i3), (4, .int v)]) 2 dX9_fittingRules_97 rfl q11.symm (by decide) rfl ?_
      refine e_goto 4 dX9_fittingRules_100 (by decide) ?_
      refine s_pick (L' := [(0, .ref a0), (1, .int x8), (2, .int x10)]) [0, 1, 2] rfl ?_
      exact H4 (x8, x10) σ3 h
  · rw [if_neg c1] at h
    refine e_aload_n 0 dX9_fittingRules_40 rfl rfl ?_
    refine s_getr dX9_fittingRules_41 fl_RX9_88 h_a0 (r_9_12 h_a0).1 ?_
    refine e_iload_n 3 dX9_fittingRules_44 rfl rfl ?_
    refine e_iload 4 dX9_fittingRules_45  rfl ?_
    refine e_iadd dX9_fittingRules_47 ?_
    refine e_aload_n 0 dX9_fittingRules_48 rfl rfl ?_
    refine s_getr dX9_fittingRules_49 fl_RX9_77 h_a0 (r_9_9 h_a0).1 ?_
    refine s_getr dX9_fittingRules_52 fl_RX9_202 (ka_1 (r_9_9 (w := 0) h_a0).2) (r_7_1 (ka_1 (r_9_9 (w := 0) h_a0).2)).1 ?_
    refine s_geti dX9_fittingRules_55 fl_RX9_174 (ka_1 (r_7_1 (w := 0) (ka_1 (r_9_9 (w := 0) h_a0).2)).2) ?_
    obtain ⟨q12, h⟩ := gd_some h
    refine s_iast dX9_fittingRules_58 (r_9_12 (w := 0) h_a0).2 q12 ?_
    obtain ⟨σ13, q14, h⟩ := lt_some h
    refine s_nms q14 ?_
    refine e_aload_n 0 dX9_fittingRules_59 rfl rfl ?_
    refine s_getr dX9_fittingRules_60 fl_RX9_77 h_a0 (r_9_9 h_a0).1 ?_
    refine e_iconst (v := (1 : Int32)) dX9_fittingRules_63 (by decide) ?_
    obtain ⟨σ16, q15, h⟩ := bv_some h
    refine s_callVv [.int (1 : Int32)] dX9_fittingRules_64 ml_RX9_199 (ka_1 (r_9_9 (w := 0) h_a0).2) rfl rfl (v_X7_passHours (d + 0) (ka_1 (r_9_9 (w := 0) h_a0).2) q15) (Nat.le_of_ble_eq_true rfl) ?_
    obtain ⟨x17, q18, h⟩ := lt_some h
    refine e_iinc (v := x17) (L' := [(0, .ref a0), (1, .int i1), (2, .int i2), (3, .int i3), (4, .int x17)]) 4 dX9_fittingRules_67 rfl q18.symm (by decide) rfl ?_
    refine e_goto 33 dX9_fittingRules_70 (by decide) ?_
    refine s_pick (L' := [(0, .ref a0), (1, .int i1), (2, .int i2), (3, .int i3), (4, .int x17)]) [0, 1, 2, 3, 4] rfl ?_
    exact H33 x17 σ16 h
def f_X9_fittingRules_4 (a0 : Nat) (i1 : Int32) (i2 : Int32) (σ : mm_S) : Option (Int32 × mm_S) :=
  lp lpN (fun (k4 : (Int32 × Int32) → mm_S → Option (Int32 × mm_S)) (v : Int32 × Int32) (σ : mm_S) =>
    if (σ.1 a0 4) < v.2 then
      some (v.1, σ)
    else
      lt ((v.2 * (61 : Int32))) fun x20 =>
      gd v.2 7 <|
      bv (f_X7_beginAsTold 200 (12 + 2 * v.2.toNatClampNeg) σ) fun σ24 =>
      f_X9_fittingRules_33 k4 a0 v.1 v.2 x20 (0 : Int32) σ24) (i1, i2) σ
theorem v_X9_fittingRules_4 {g : mm_G} (d : Nat) {a0 : Nat} {i1 : Int32} {i2 : Int32} {σ : mm_S} {res : Int32 × mm_S}  (h_a0 : (mm_K a0).1 = 9) (h : f_X9_fittingRules_4 a0 i1 i2 σ = some res) : SV g (d + 5) yy_X9_fittingRules 4 [(0, .ref a0), (1, .int i1), (2, .int i2)] [] σ (.int res.1) res.2 := by
  unfold f_X9_fittingRules_4 at h
  refine lp_ind (P := fun v σ => SV g (d + 5) yy_X9_fittingRules 4 [(0, .ref a0), (1, .int v.1), (2, .int v.2)] [] σ (.int res.1) res.2) (fun k4 H4 v σ h => ?_) _ (i1, i2) σ h
  refine e_iload_n 2 dX9_fittingRules_4 rfl rfl ?_
  refine e_aload_n 0 dX9_fittingRules_5 rfl rfl ?_
  refine s_geti dX9_fittingRules_6 fl_RX9_43 h_a0 ?_
  refine e_icmp_gt 103 dX9_fittingRules_9 (by decide) (fun c19 => ?_) (fun c19 => ?_)
  · rw [if_pos c19] at h
    refine e_iload_n 1 dX9_fittingRules_103 rfl rfl ?_
    obtain rfl := Option.some.inj h
    exact s_ret rfl ⟨_, rfl, rfl⟩ dX9_fittingRules_104
  · rw [if_neg c19] at h
    refine e_iload_n 2 dX9_fittingRules_12 rfl rfl ?_
    refine e_bipush (v := (61 : Int32)) dX9_fittingRules_13 (by decide) ?_
    refine e_imul dX9_fittingRules_15 ?_
    obtain ⟨x20, q21, h⟩ := lt_some h
    refine s_nmi q21 ?_
    refine e_istore_n (L' := [(0, .ref a0), (1, .int v.1), (2, .int v.2), (3, .int x20)]) dX9_fittingRules_16 rfl (by decide) rfl ?_
    refine e_aload_n 0 dX9_fittingRules_17 rfl rfl ?_
    refine s_getr dX9_fittingRules_18 fl_RX9_77 h_a0 (r_9_9 h_a0).1 ?_
    refine e_aload_n 0 dX9_fittingRules_21 rfl rfl ?_
    refine s_getr dX9_fittingRules_22 fl_RX9_34 h_a0 (r_9_3 h_a0).1 ?_
    refine e_iload_n 2 dX9_fittingRules_25 rfl rfl ?_
    obtain ⟨q22, h⟩ := gd_some h
    refine s_aald16 dX9_fittingRules_26 (ka_1 (r_9_3 (w := 0) h_a0).2) q22 ?_
    obtain ⟨σ24, q23, h⟩ := bv_some h
    refine s_callVv [.ref (12 + 2 * v.2.toNatClampNeg)] dX9_fittingRules_27 ml_RX9_278 (ka_1 (r_9_9 (w := 0) h_a0).2) rfl rfl (v_X7_beginAsTold (d + 1) (ka_1 (r_9_9 (w := 0) h_a0).2) (r_a16 (w := 0) (ka_1 (r_9_3 (w := 0) h_a0).2) (vin_lt q22)).2.1 q23) (Nat.le_of_ble_eq_true rfl) ?_
    refine e_iconst (v := (0 : Int32)) dX9_fittingRules_30 (by decide) ?_
    refine e_istore (L' := [(0, .ref a0), (1, .int v.1), (2, .int v.2), (3, .int x20), (4, .int (0 : Int32))]) dX9_fittingRules_31  (by decide) rfl ?_
    refine s_pick (L' := [(0, .ref a0), (1, .int v.1), (2, .int v.2), (3, .int x20), (4, .int (0 : Int32))]) [0, 1, 2, 3, 4] rfl ?_
    exact v_X9_fittingRules_33 d H4 h_a0 h
def f_X9_fittingRules (a0 : Nat) (σ : mm_S) : Option (Int32 × mm_S) :=
    f_X9_fittingRules_4 a0 (0 : Int32) (0 : Int32) σ
theorem v_X9_fittingRules {g : mm_G} (d : Nat) {a0 : Nat} {σ : mm_S} {res : Int32 × mm_S} (h_a0 : (mm_K a0).1 = 9) (h : f_X9_fittingRules a0 σ = some res) : SM g (d + 5) yy_X9_fittingRules [.ref a0] σ (.int res.1) res.2 := by
  refine s_of (by decide) (Nat.le_of_ble_eq_true rfl) (L := [(0, .ref a0)]) rfl ?_
  unfold f_X9_fittingRules at h
  refine e_iconst (v := (0 : Int32)) dX9_fittingRules_0 (by decide) ?_
  refine e_istore_n (L' := [(0, .ref a0), (1, .int (0 : Int32))]) dX9_fittingRules_1 rfl (by decide) rfl ?_
  refine e_iconst (v := (0 : Int32)) dX9_fittingRules_2 (by decide) ?_
  refine e_istore_n (L' := [(0, .ref a0), (1, .int (0 : Int32)), (2, .int (0 : Int32))]) dX9_fittingRules_3 rfl (by decide) rfl ?_
  refine s_pick (L' := [(0, .ref a0), (1, .int (0 : Int32)), (2, .int (0 : Int32))]) [0, 1, 2] rfl ?_
  exact v_X9_fittingRules_4 d h_a0 h
abbrev yy_X9_ruled : mm_Y := (yX9_ruled, cX9_ruled, 3, (some .int))
theorem dX9_ruled_0 : decode cX9_ruled 0 = .ok (.aload_n 0, 1) := by decide +kernel
theorem dX9_ruled_1 : decode cX9_ruled 1 = .ok (.getfield 50, 3) := by decide +kernel
theorem dX9_ruled_4 : decode cX9_ruled 4 = .ok (.getfield 71, 3) := by decide +kernel
theorem dX9_ruled_7 : decode cX9_ruled 7 = .ok (.getfield 188, 3) := by decide +kernel
theorem dX9_ruled_10 : decode cX9_ruled 10 = .ok (.ifCond .eq 12, 3) := by decide +kernel
theorem dX9_ruled_13 : decode cX9_ruled 13 = .ok (.iload_n 1, 1) := by decide +kernel
theorem dX9_ruled_14 : decode cX9_ruled 14 = .ok (.ifCond .lt 8, 3) := by decide +kernel
theorem dX9_ruled_17 : decode cX9_ruled 17 = .ok (.iload_n 1, 1) := by decide +kernel
theorem dX9_ruled_18 : decode cX9_ruled 18 = .ok (.iconst 1, 1) := by decide +kernel
theorem dX9_ruled_19 : decode cX9_ruled 19 = .ok (.if_icmp .le 6, 3) := by decide +kernel
theorem dX9_ruled_22 : decode cX9_ruled 22 = .ok (.bipush (-3), 2) := by decide +kernel
theorem dX9_ruled_24 : decode cX9_ruled 24 = .ok (.ireturn, 1) := by decide +kernel
theorem dX9_ruled_25 : decode cX9_ruled 25 = .ok (.aload_n 0, 1) := by decide +kernel
theorem dX9_ruled_26 : decode cX9_ruled 26 = .ok (.invokevirtual 269, 3) := by decide +kernel
theorem dX9_ruled_29 : decode cX9_ruled 29 = .ok (.istore_n 2, 1) := by decide +kernel
theorem dX9_ruled_30 : decode cX9_ruled 30 = .ok (.iload_n 1, 1) := by decide +kernel
theorem dX9_ruled_31 : decode cX9_ruled 31 = .ok (.ifCond .ne 8, 3) := by decide +kernel
theorem dX9_ruled_34 : decode cX9_ruled 34 = .ok (.iload_n 2, 1) := by decide +kernel
theorem dX9_ruled_35 : decode cX9_ruled 35 = .ok (.invokestatic 223, 3) := by decide +kernel
theorem dX9_ruled_38 : decode cX9_ruled 38 = .ok (.ireturn, 1) := by decide +kernel
theorem dX9_ruled_39 : decode cX9_ruled 39 = .ok (.iload_n 2, 1) := by decide +kernel
theorem dX9_ruled_40 : decode cX9_ruled 40 = .ok (.ifCond .ne 8, 3) := by decide +kernel
theorem dX9_ruled_43 : decode cX9_ruled 43 = .ok (.bipush (-2), 2) := by decide +kernel
theorem dX9_ruled_45 : decode cX9_ruled 45 = .ok (.goto 9, 3) := by decide +kernel
theorem dX9_ruled_48 : decode cX9_ruled 48 = .ok (.iload_n 2, 1) := by decide +kernel
theorem dX9_ruled_49 : decode cX9_ruled 49 = .ok (.invokestatic 272, 3) := by decide +kernel
theorem dX9_ruled_52 : decode cX9_ruled 52 = .ok (.iconst 1, 1) := by decide +kernel
theorem dX9_ruled_53 : decode cX9_ruled 53 = .ok (.isub, 1) := by decide +kernel
theorem dX9_ruled_54 : decode cX9_ruled 54 = .ok (.ireturn, 1) := by decide +kernel
def f_X9_ruled (a0 : Nat) (i1 : Int32) (σ : mm_S) : Option (Int32 × mm_S) :=
    if (σ.1 (26 + 1) 0) = 0 then
      some ((-3 : Int32), σ)
    else
      if i1 < 0 then
        some ((-3 : Int32), σ)
      else
        if i1 ≤ (1 : Int32) then
          bd (f_X9_fittingRules a0 σ) fun r20 σ19 =>
          if i1 = 0 then
            bd (f_J6_bitCount_0f7a4 r20 σ19) fun r28 σ27 =>
            some (r28, σ27)
          else
            if r20 = 0 then
              some ((-2 : Int32), σ19)
            else
              bd (f_J6_numberOfTrailingZeros_0f7a4 r20 σ19) fun r25 σ24 =>
              some ((r25 - (1 : Int32)), σ24)
        else
          some ((-3 : Int32), σ)
theorem v_X9_ruled {g : mm_G} (d : Nat) {a0 : Nat} {i1 : Int32} {σ : mm_S} {res : Int32 × mm_S} (h_a0 : (mm_K a0).1 = 9) (h : f_X9_ruled a0 i1 σ = some res) : SM g (d + 6) yy_X9_ruled [.ref a0, .int i1] σ (.int res.1) res.2 := by
  refine s_of (by decide) (Nat.le_of_ble_eq_true rfl) (L := [(0, .ref a0), (1, .int i1)]) rfl ?_
  unfold f_X9_ruled at h
  refine e_aload_n 0 dX9_ruled_0 rfl rfl ?_
  refine s_getr dX9_ruled_1 fl_RX9_50 h_a0 (r_9_5 h_a0).1 ?_
  refine s_getr dX9_ruled_4 fl_RX9_71 (ka_1 (r_9_5 (w := 0) h_a0).2) (r_8_0 (ka_1 (r_9_5 (w := 0) h_a0).2)).1 ?_
  refine s_geti dX9_ruled_7 fl_RX9_188 (ka_1 (r_8_0 (w := 0) (ka_1 (r_9_5 (w := 0) h_a0).2)).2) ?_
  refine e_if_eq 22 dX9_ruled_10 (by decide) (fun c15 => ?_) (fun c15 => ?_)
  · rw [if_pos c15] at h
    refine e_bipush (v := (-3 : Int32)) dX9_ruled_22 (by decide) ?_
    obtain rfl := Option.some.inj h
    exact s_ret rfl ⟨_, rfl, rfl⟩ dX9_ruled_24
  · rw [if_neg c15] at h
    refine e_iload_n 1 dX9_ruled_13 rfl rfl ?_
    refine e_if_lt 22 dX9_ruled_14 (by decide) (fun c16 => ?_) (fun c16 => ?_)
    · rw [if_pos c16] at h
      refine e_bipush (v := (-3 : Int32)) dX9_ruled_22 (by decide) ?_
      obtain rfl := Option.some.inj h
      exact s_ret rfl ⟨_, rfl, rfl⟩ dX9_ruled_24
    · rw [if_neg c16] at h
      refine e_iload_n 1 dX9_ruled_17 rfl rfl ?_
      refine e_iconst (v := (1 : Int32)) dX9_ruled_18 (by decide) ?_
      refine e_icmp_le 25 dX9_ruled_19 (by decide) (fun c17 => ?_) (fun c17 => ?_)
      · rw [if_pos c17] at h
        refine e_aload_n 0 dX9_ruled_25 rfl rfl ?_
        obtain ⟨r20, σ19, q18, h⟩ := bd_some h
        refine s_callVi [] dX9_ruled_26 ml_RX9_269 h_a0 ⟨_, rfl, by decide⟩ rfl (v_X9_fittingRules (d + 0) h_a0 q18) (Nat.le_of_ble_eq_true rfl) ?_
        refine e_istore_n (L' := [(0, .ref a0), (1, .int i1), (2, .int r20)]) dX9_ruled_29 rfl (by decide) rfl ?_
        refine e_iload_n 1 dX9_ruled_30 rfl rfl ?_
        refine e_if_ne 39 dX9_ruled_31 (by decide) (fun c21 => ?_) (fun c21 => ?_)
        · rw [if_neg c21] at h
          refine e_iload_n 2 dX9_ruled_39 rfl rfl ?_
          refine e_if_ne 48 dX9_ruled_40 (by decide) (fun c22 => ?_) (fun c22 => ?_)
          · rw [if_neg c22] at h
            refine e_iload_n 2 dX9_ruled_48 rfl rfl ?_
            obtain ⟨r25, σ24, q23, h⟩ := bd_some h
            refine s_callSi [.int r20] dX9_ruled_49 ml_RX9_272 ⟨_, rfl, by decide⟩ rfl (v_J6_numberOfTrailingZeros_0f7a4 (d + 5)  q23) (Nat.le_of_ble_eq_true rfl) ?_
            refine e_iconst (v := (1 : Int32)) dX9_ruled_52 (by decide) ?_
            refine e_isub dX9_ruled_53 ?_
            obtain rfl := Option.some.inj h
            exact s_ret rfl ⟨_, rfl, rfl⟩ dX9_ruled_54
          · rw [if_pos c22] at h
            refine e_bipush (v := (-2 : Int32)) dX9_ruled_43 (by decide) ?_
            refine e_goto 54 dX9_ruled_45 (by decide) ?_
            obtain rfl := Option.some.inj h
            exact s_ret rfl ⟨_, rfl, rfl⟩ dX9_ruled_54
        · rw [if_pos c21] at h
          refine e_iload_n 2 dX9_ruled_34 rfl rfl ?_
          obtain ⟨r28, σ27, q26, h⟩ := bd_some h
          refine s_callSi [.int r20] dX9_ruled_35 ml_RX9_223 ⟨_, rfl, by decide⟩ rfl (v_J6_bitCount_0f7a4 (d + 5)  q26) (Nat.le_of_ble_eq_true rfl) ?_
          obtain rfl := Option.some.inj h
          exact s_ret rfl ⟨_, rfl, rfl⟩ dX9_ruled_38
      · rw [if_neg c17] at h
        refine e_bipush (v := (-3 : Int32)) dX9_ruled_22 (by decide) ?_
        obtain rfl := Option.some.inj h
        exact s_ret rfl ⟨_, rfl, rfl⟩ dX9_ruled_24
abbrev yy_X9_mostAlike : mm_Y := (yX9_mostAlike, cX9_mostAlike, 8, (some .int))
theorem dX9_mostAlike_0 : decode cX9_mostAlike 0 = .ok (.iconst 0, 1) := by decide +kernel
theorem dX9_mostAlike_1 : decode cX9_mostAlike 1 = .ok (.istore_n 3, 1) := by decide +kernel
theorem dX9_mostAlike_2 : decode cX9_mostAlike 2 = .ok (.iconst 0, 1) := by decide +kernel
theorem dX9_mostAlike_3 : decode cX9_mostAlike 3 = .ok (.istore 4, 2) := by decide +kernel
theorem dX9_mostAlike_5 : decode cX9_mostAlike 5 = .ok (.iload 4, 2) := by decide +kernel
theorem dX9_mostAlike_7 : decode cX9_mostAlike 7 = .ok (.aload_n 0, 1) := by decide +kernel
theorem dX9_mostAlike_8 : decode cX9_mostAlike 8 = .ok (.getfield 43, 3) := by decide +kernel
theorem dX9_mostAlike_11 : decode cX9_mostAlike 11 = .ok (.if_icmp .gt 99, 3) := by decide +kernel
theorem dX9_mostAlike_14 : decode cX9_mostAlike 14 = .ok (.iconst 0, 1) := by decide +kernel
theorem dX9_mostAlike_15 : decode cX9_mostAlike 15 = .ok (.istore 5, 2) := by decide +kernel
theorem dX9_mostAlike_17 : decode cX9_mostAlike 17 = .ok (.iconst 0, 1) := by decide +kernel
theorem dX9_mostAlike_18 : decode cX9_mostAlike 18 = .ok (.istore 6, 2) := by decide +kernel
theorem dX9_mostAlike_20 : decode cX9_mostAlike 20 = .ok (.iload 6, 2) := by decide +kernel
theorem dX9_mostAlike_22 : decode cX9_mostAlike 22 = .ok (.aload_n 0, 1) := by decide +kernel
theorem dX9_mostAlike_23 : decode cX9_mostAlike 23 = .ok (.getfield 43, 3) := by decide +kernel
theorem dX9_mostAlike_26 : decode cX9_mostAlike 26 = .ok (.if_icmp .gt 71, 3) := by decide +kernel
theorem dX9_mostAlike_29 : decode cX9_mostAlike 29 = .ok (.iload_n 1, 1) := by decide +kernel
theorem dX9_mostAlike_30 : decode cX9_mostAlike 30 = .ok (.iload 4, 2) := by decide +kernel
theorem dX9_mostAlike_32 : decode cX9_mostAlike 32 = .ok (.ishr, 1) := by decide +kernel
theorem dX9_mostAlike_33 : decode cX9_mostAlike 33 = .ok (.iconst 1, 1) := by decide +kernel
theorem dX9_mostAlike_34 : decode cX9_mostAlike 34 = .ok (.iand, 1) := by decide +kernel
theorem dX9_mostAlike_35 : decode cX9_mostAlike 35 = .ok (.iconst 1, 1) := by decide +kernel
theorem dX9_mostAlike_36 : decode cX9_mostAlike 36 = .ok (.if_icmp .ne 17, 3) := by decide +kernel
theorem dX9_mostAlike_39 : decode cX9_mostAlike 39 = .ok (.iload_n 1, 1) := by decide +kernel
theorem dX9_mostAlike_40 : decode cX9_mostAlike 40 = .ok (.iload 6, 2) := by decide +kernel
theorem dX9_mostAlike_42 : decode cX9_mostAlike 42 = .ok (.ishr, 1) := by decide +kernel
theorem dX9_mostAlike_43 : decode cX9_mostAlike 43 = .ok (.iconst 1, 1) := by decide +kernel
theorem dX9_mostAlike_44 : decode cX9_mostAlike 44 = .ok (.iand, 1) := by decide +kernel
theorem dX9_mostAlike_45 : decode cX9_mostAlike 45 = .ok (.iconst 1, 1) := by decide +kernel
theorem dX9_mostAlike_46 : decode cX9_mostAlike 46 = .ok (.if_icmp .ne 7, 3) := by decide +kernel
theorem dX9_mostAlike_49 : decode cX9_mostAlike 49 = .ok (.iconst 1, 1) := by decide +kernel
theorem dX9_mostAlike_50 : decode cX9_mostAlike 50 = .ok (.goto 4, 3) := by decide +kernel
theorem dX9_mostAlike_53 : decode cX9_mostAlike 53 = .ok (.iconst 0, 1) := by decide +kernel
theorem dX9_mostAlike_54 : decode cX9_mostAlike 54 = .ok (.istore 7, 2) := by decide +kernel
theorem dX9_mostAlike_56 : decode cX9_mostAlike 56 = .ok (.iload 7, 2) := by decide +kernel
theorem dX9_mostAlike_58 : decode cX9_mostAlike 58 = .ok (.ifCond .eq 33, 3) := by decide +kernel
theorem dX9_mostAlike_61 : decode cX9_mostAlike 61 = .ok (.aload_n 0, 1) := by decide +kernel
theorem dX9_mostAlike_62 : decode cX9_mostAlike 62 = .ok (.getfield 88, 3) := by decide +kernel
theorem dX9_mostAlike_65 : decode cX9_mostAlike 65 = .ok (.iload 4, 2) := by decide +kernel
theorem dX9_mostAlike_67 : decode cX9_mostAlike 67 = .ok (.bipush 61, 2) := by decide +kernel
theorem dX9_mostAlike_69 : decode cX9_mostAlike 69 = .ok (.imul, 1) := by decide +kernel
theorem dX9_mostAlike_70 : decode cX9_mostAlike 70 = .ok (.iload_n 2, 1) := by decide +kernel
theorem dX9_mostAlike_71 : decode cX9_mostAlike 71 = .ok (.iadd, 1) := by decide +kernel
theorem dX9_mostAlike_72 : decode cX9_mostAlike 72 = .ok (.iaload, 1) := by decide +kernel
theorem dX9_mostAlike_73 : decode cX9_mostAlike 73 = .ok (.aload_n 0, 1) := by decide +kernel
theorem dX9_mostAlike_74 : decode cX9_mostAlike 74 = .ok (.getfield 88, 3) := by decide +kernel
theorem dX9_mostAlike_77 : decode cX9_mostAlike 77 = .ok (.iload 6, 2) := by decide +kernel
theorem dX9_mostAlike_79 : decode cX9_mostAlike 79 = .ok (.bipush 61, 2) := by decide +kernel
theorem dX9_mostAlike_81 : decode cX9_mostAlike 81 = .ok (.imul, 1) := by decide +kernel
theorem dX9_mostAlike_82 : decode cX9_mostAlike 82 = .ok (.iload_n 2, 1) := by decide +kernel
theorem dX9_mostAlike_83 : decode cX9_mostAlike 83 = .ok (.iadd, 1) := by decide +kernel
theorem dX9_mostAlike_84 : decode cX9_mostAlike 84 = .ok (.iaload, 1) := by decide +kernel
theorem dX9_mostAlike_85 : decode cX9_mostAlike 85 = .ok (.if_icmp .ne 6, 3) := by decide +kernel
theorem dX9_mostAlike_88 : decode cX9_mostAlike 88 = .ok (.iinc 5 1, 3) := by decide +kernel
theorem dX9_mostAlike_91 : decode cX9_mostAlike 91 = .ok (.iinc 6 1, 3) := by decide +kernel
theorem dX9_mostAlike_94 : decode cX9_mostAlike 94 = .ok (.goto (-74), 3) := by decide +kernel
theorem dX9_mostAlike_97 : decode cX9_mostAlike 97 = .ok (.iload_n 3, 1) := by decide +kernel
theorem dX9_mostAlike_98 : decode cX9_mostAlike 98 = .ok (.iload 5, 2) := by decide +kernel
theorem dX9_mostAlike_100 : decode cX9_mostAlike 100 = .ok (.invokestatic 248, 3) := by decide +kernel
theorem dX9_mostAlike_103 : decode cX9_mostAlike 103 = .ok (.istore_n 3, 1) := by decide +kernel
theorem dX9_mostAlike_104 : decode cX9_mostAlike 104 = .ok (.iinc 4 1, 3) := by decide +kernel
theorem dX9_mostAlike_107 : decode cX9_mostAlike 107 = .ok (.goto (-102), 3) := by decide +kernel
theorem dX9_mostAlike_110 : decode cX9_mostAlike 110 = .ok (.iload_n 3, 1) := by decide +kernel
theorem dX9_mostAlike_111 : decode cX9_mostAlike 111 = .ok (.ireturn, 1) := by decide +kernel
def f_X9_mostAlike_54 (k5 : (Int32 × Int32) → mm_S → Option (Int32 × mm_S)) (k20 : (Int32 × Int32) → mm_S → Option (Int32 × mm_S)) (a0 : Nat) (i1 : Int32) (i2 : Int32) (i3 : Int32) (i4 : Int32) (i5 : Int32) (i6 : Int32) (s0 : Int32) (σ : mm_S) : Option (Int32 × mm_S) :=
    if s0 = 0 then
      lt (i6 + Int32.ofInt (1)) fun x2 =>
      k20 (i5, x2) σ
    else
      gd ((i4 * (61 : Int32)) + i2) 427 <|
      gd ((i6 * (61 : Int32)) + i2) 427 <|
      if (σ.1 213 ((i4 * (61 : Int32)) + i2).toNatClampNeg) = (σ.1 213 ((i6 * (61 : Int32)) + i2).toNatClampNeg) then
        lt (i5 + Int32.ofInt (1)) fun x9 =>
        lt (i6 + Int32.ofInt (1)) fun x11 =>
        k20 (x9, x11) σ
      else
        lt (i6 + Int32.ofInt (1)) fun x7 =>
        k20 (i5, x7) σ
theorem v_X9_mostAlike_54 {g : mm_G} (d : Nat) {k5 : (Int32 × Int32) → mm_S → Option (Int32 × mm_S)} {k20 : (Int32 × Int32) → mm_S → Option (Int32 × mm_S)} {a0 : Nat} {i1 : Int32} {i2 : Int32} {i3 : Int32} {i4 : Int32} {i5 : Int32} {i6 : Int32} {s0 : Int32} {σ : mm_S} {res : Int32 × mm_S} (H5 : ∀ v σ, k5 v σ = some res → SV g (d + 1) yy_X9_mostAlike 5 [(0, .ref a0), (1, .int i1), (2, .int i2), (3, .int v.1), (4, .int v.2)] [] σ (.int res.1) res.2) (H20 : ∀ v σ, k20 v σ = some res → SV g (d + 1) yy_X9_mostAlike 20 [(0, .ref a0), (1, .int i1), (2, .int i2), (3, .int i3), (4, .int i4), (5, .int v.1), (6, .int v.2)] [] σ (.int res.1) res.2) (h_a0 : (mm_K a0).1 = 9) (h : f_X9_mostAlike_54 k5 k20 a0 i1 i2 i3 i4 i5 i6 s0 σ = some res) : SV g (d + 1) yy_X9_mostAlike 54 [(0, .ref a0), (1, .int i1), (2, .int i2), (3, .int i3), (4, .int i4), (5, .int i5), (6, .int i6)] [.int s0] σ (.int res.1) res.2 := by
  unfold f_X9_mostAlike_54 at h
  refine e_istore (L' := [(0, .ref a0), (1, .int i1), (2, .int i2), (3, .int i3), (4, .int i4), (5, .int i5), (6, .int i6), (7, .int s0)]) dX9_mostAlike_54  (by decide) rfl ?_
  refine e_iload 7 dX9_mostAlike_56  rfl ?_
  refine e_if_eq 91 dX9_mostAlike_58 (by decide) (fun c1 => ?_) (fun c1 => ?_)
  · rw [if_pos c1] at h
    obtain ⟨x2, q3, h⟩ := lt_some h
    refine e_iinc (v := x2) (L' := [(0, .ref a0), (1, .int i1), (2, .int i2), (3, .int i3), (4, .int i4), (5, .int i5), (6, .int x2), (7, .int s0)]) 6 dX9_mostAlike_91 rfl q3.symm (by decide) rfl ?_
    refine e_goto 20 dX9_mostAlike_94 (by decide) ?_
    refine s_pick (L' := [(0, .ref a0), (1, .int i1), (2, .int i2), (3, .int i3), (4, .int i4), (5, .int i5), (6, .int x2)]) [0, 1, 2, 3, 4, 5, 6] rfl ?_
    exact H20 (i5, x2) σ h
  · rw [if_neg c1] at h
    refine e_aload_n 0 dX9_mostAlike_61 rfl rfl ?_
    refine s_getr dX9_mostAlike_62 fl_RX9_88 h_a0 (r_9_12 h_a0).1 ?_
    refine e_iload 4 dX9_mostAlike_65  rfl ?_
    refine e_bipush (v := (61 : Int32)) dX9_mostAlike_67 (by decide) ?_
    refine e_imul dX9_mostAlike_69 ?_
    refine e_iload_n 2 dX9_mostAlike_70 rfl rfl ?_
    refine e_iadd dX9_mostAlike_71 ?_
    obtain ⟨q4, h⟩ := gd_some h
    refine s_iald dX9_mostAlike_72 (r_9_12 (w := 0) h_a0).2 q4 ?_
    refine e_aload_n 0 dX9_mostAlike_73 rfl rfl ?_
    refine s_getr dX9_mostAlike_74 fl_RX9_88 h_a0 (r_9_12 h_a0).1 ?_
    refine e_iload 6 dX9_mostAlike_77  rfl ?_
    refine e_bipush (v := (61 : Int32)) dX9_mostAlike_79 (by decide) ?_
    refine e_imul dX9_mostAlike_81 ?_
    refine e_iload_n 2 dX9_mostAlike_82 rfl rfl ?_
    refine e_iadd dX9_mostAlike_83 ?_
    obtain ⟨q5, h⟩ := gd_some h
    refine s_iald dX9_mostAlike_84 (r_9_12 (w := 0) h_a0).2 q5 ?_
    refine e_icmp_ne 91 dX9_mostAlike_85 (by decide) (fun c6 => ?_) (fun c6 => ?_)
    · rw [if_neg c6] at h
      obtain ⟨x7, q8, h⟩ := lt_some h
      refine e_iinc (v := x7) (L' := [(0, .ref a0), (1, .int i1), (2, .int i2), (3, .int i3), (4, .int i4), (5, .int i5), (6, .int x7), (7, .int s0)]) 6 dX9_mostAlike_91 rfl q8.symm (by decide) rfl ?_
      refine e_goto 20 dX9_mostAlike_94 (by decide) ?_
      refine s_pick (L' := [(0, .ref a0), (1, .int i1), (2, .int i2), (3, .int i3), (4, .int i4), (5, .int i5), (6, .int x7)]) [0, 1, 2, 3, 4, 5, 6] rfl ?_
      exact H20 (i5, x7) σ h
    · rw [if_pos c6] at h
      obtain ⟨x9, q10, h⟩ := lt_some h
      refine e_iinc (v := x9) (L' := [(0, .ref a0), (1, .int i1), (2, .int i2), (3, .int i3), (4, .int i4), (5, .int x9), (6, .int i6), (7, .int s0)]) 5 dX9_mostAlike_88 rfl q10.symm (by decide) rfl ?_
      obtain ⟨x11, q12, h⟩ := lt_some h
      refine e_iinc (v := x11) (L' := [(0, .ref a0), (1, .int i1), (2, .int i2), (3, .int i3), (4, .int i4), (5, .int x9), (6, .int x11), (7, .int s0)]) 6 dX9_mostAlike_91 rfl q12.symm (by decide) rfl ?_
      refine e_goto 20 dX9_mostAlike_94 (by decide) ?_
      refine s_pick (L' := [(0, .ref a0), (1, .int i1), (2, .int i2), (3, .int i3), (4, .int i4), (5, .int x9), (6, .int x11)]) [0, 1, 2, 3, 4, 5, 6] rfl ?_
      exact H20 (x9, x11) σ h
def f_X9_mostAlike_20 (k5 : (Int32 × Int32) → mm_S → Option (Int32 × mm_S)) (a0 : Nat) (i1 : Int32) (i2 : Int32) (i3 : Int32) (i4 : Int32) (i5 : Int32) (i6 : Int32) (σ : mm_S) : Option (Int32 × mm_S) :=
  lp lpN (fun (k20 : (Int32 × Int32) → mm_S → Option (Int32 × mm_S)) (v : Int32 × Int32) (σ : mm_S) =>
    if (σ.1 a0 4) < v.2 then
      lt ((if i3 < v.1 then v.1 else i3)) fun x14 =>
      lt (i4 + Int32.ofInt (1)) fun x16 =>
      k5 (x14, x16) σ
    else
      if ((i1 >>> (i4 &&& 31)) &&& (1 : Int32)) = (1 : Int32) then
        if ((i1 >>> (v.2 &&& 31)) &&& (1 : Int32)) = (1 : Int32) then
          f_X9_mostAlike_54 k5 k20 a0 i1 i2 i3 i4 v.1 v.2 (1 : Int32) σ
        else
          f_X9_mostAlike_54 k5 k20 a0 i1 i2 i3 i4 v.1 v.2 (0 : Int32) σ
      else
        f_X9_mostAlike_54 k5 k20 a0 i1 i2 i3 i4 v.1 v.2 (0 : Int32) σ) (i5, i6) σ
theorem v_X9_mostAlike_20 {g : mm_G} (d : Nat) {k5 : (Int32 × Int32) → mm_S → Option (Int32 × mm_S)} {a0 : Nat} {i1 : Int32} {i2 : Int32} {i3 : Int32} {i4 : Int32} {i5 : Int32} {i6 : Int32} {σ : mm_S} {res : Int32 × mm_S} (H5 : ∀ v σ, k5 v σ = some res → SV g (d + 1) yy_X9_mostAlike 5 [(0, .ref a0), (1, .int i1), (2, .int i2), (3, .int v.1), (4, .int v.2)] [] σ (.int res.1) res.2) (h_a0 : (mm_K a0).1 = 9) (h : f_X9_mostAlike_20 k5 a0 i1 i2 i3 i4 i5 i6 σ = some res) : SV g (d + 1) yy_X9_mostAlike 20 [(0, .ref a0), (1, .int i1), (2, .int i2), (3, .int i3), (4, .int i4), (5, .int i5), (6, .int i6)] [] σ (.int res.1) res.2 := by
  unfold f_X9_mostAlike_20 at h
  refine lp_ind (P := fun v σ => SV g (d + 1) yy_X9_mostAlike 20 [(0, .ref a0), (1, .int i1), (2, .int i2), (3, .int i3), (4, .int i4), (5, .int v.1), (6, .int v.2)] [] σ (.int res.1) res.2) (fun k20 H20 v σ h => ?_) _ (i5, i6) σ h
  refine e_iload 6 dX9_mostAlike_20  rfl ?_
  refine e_aload_n 0 dX9_mostAlike_22 rfl rfl ?_
  refine s_geti dX9_mostAlike_23 fl_RX9_43 h_a0 ?_
  refine e_icmp_gt 97 dX9_mostAlike_26 (by decide) (fun c13 => ?_) (fun c13 => ?_)
  · rw [if_pos c13] at h
    refine e_iload_n 3 dX9_mostAlike_97 rfl rfl ?_
    refine e_iload 5 dX9_mostAlike_98  rfl ?_
    refine s_mmax dX9_mostAlike_100 mx_RX9_248 (Nat.le_of_ble_eq_true rfl) ?_
    obtain ⟨x14, q15, h⟩ := lt_some h
    refine s_nmi q15 ?_
    refine e_istore_n (L' := [(0, .ref a0), (1, .int i1), (2, .int i2), (3, .int x14), (4, .int i4), (5, .int v.1), (6, .int v.2)]) dX9_mostAlike_103 rfl (by decide) rfl ?_
    obtain ⟨x16, q17, h⟩ := lt_some h
    refine e_iinc (v := x16) (L' := [(0, .ref a0), (1, .int i1), (2, .int i2), (3, .int x14), (4, .int x16), (5, .int v.1), (6, .int v.2)]) 4 dX9_mostAlike_104 rfl q17.symm (by decide) rfl ?_
    refine e_goto 5 dX9_mostAlike_107 (by decide) ?_
    refine s_pick (L' := [(0, .ref a0), (1, .int i1), (2, .int i2), (3, .int x14), (4, .int x16)]) [0, 1, 2, 3, 4] rfl ?_
    exact H5 (x14, x16) σ h
  · rw [if_neg c13] at h
    refine e_iload_n 1 dX9_mostAlike_29 rfl rfl ?_
    refine e_iload 4 dX9_mostAlike_30  rfl ?_
    refine e_ishr dX9_mostAlike_32 ?_
    refine e_iconst (v := (1 : Int32)) dX9_mostAlike_33 (by decide) ?_
    refine e_iand dX9_mostAlike_34 ?_
    refine e_iconst (v := (1 : Int32)) dX9_mostAlike_35 (by decide) ?_
    refine e_icmp_ne 53 dX9_mostAlike_36 (by decide) (fun c18 => ?_) (fun c18 => ?_)
    · rw [if_neg c18] at h
      refine e_iconst (v := (0 : Int32)) dX9_mostAlike_53 (by decide) ?_
      refine s_pick (L' := [(0, .ref a0), (1, .int i1), (2, .int i2), (3, .int i3), (4, .int i4), (5, .int v.1), (6, .int v.2)]) [0, 1, 2, 3, 4, 5, 6] rfl ?_
      exact v_X9_mostAlike_54 d H5 H20 h_a0 h
    · rw [if_pos c18] at h
      refine e_iload_n 1 dX9_mostAlike_39 rfl rfl ?_
      refine e_iload 6 dX9_mostAlike_40  rfl ?_
      refine e_ishr dX9_mostAlike_42 ?_
      refine e_iconst (v := (1 : Int32)) dX9_mostAlike_43 (by decide) ?_
      refine e_iand dX9_mostAlike_44 ?_
      refine e_iconst (v := (1 : Int32)) dX9_mostAlike_45 (by decide) ?_
      refine e_icmp_ne 53 dX9_mostAlike_46 (by decide) (fun c19 => ?_) (fun c19 => ?_)
      · rw [if_neg c19] at h
        refine e_iconst (v := (0 : Int32)) dX9_mostAlike_53 (by decide) ?_
        refine s_pick (L' := [(0, .ref a0), (1, .int i1), (2, .int i2), (3, .int i3), (4, .int i4), (5, .int v.1), (6, .int v.2)]) [0, 1, 2, 3, 4, 5, 6] rfl ?_
        exact v_X9_mostAlike_54 d H5 H20 h_a0 h
      · rw [if_pos c19] at h
        refine e_iconst (v := (1 : Int32)) dX9_mostAlike_49 (by decide) ?_
        refine e_goto 54 dX9_mostAlike_50 (by decide) ?_
        refine s_pick (L' := [(0, .ref a0), (1, .int i1), (2, .int i2), (3, .int i3), (4, .int i4), (5, .int v.1), (6, .int v.2)]) [0, 1, 2, 3, 4, 5, 6] rfl ?_
        exact v_X9_mostAlike_54 d H5 H20 h_a0 h
def f_X9_mostAlike_5 (a0 : Nat) (i1 : Int32) (i2 : Int32) (i3 : Int32) (i4 : Int32) (σ : mm_S) : Option (Int32 × mm_S) :=
  lp lpN (fun (k5 : (Int32 × Int32) → mm_S → Option (Int32 × mm_S)) (v : Int32 × Int32) (σ : mm_S) =>
    if (σ.1 a0 4) < v.2 then
      some (v.1, σ)
    else
      f_X9_mostAlike_20 k5 a0 i1 i2 v.1 v.2 (0 : Int32) (0 : Int32) σ) (i3, i4) σ
theorem v_X9_mostAlike_5 {g : mm_G} (d : Nat) {a0 : Nat} {i1 : Int32} {i2 : Int32} {i3 : Int32} {i4 : Int32} {σ : mm_S} {res : Int32 × mm_S}  (h_a0 : (mm_K a0).1 = 9) (h : f_X9_mostAlike_5 a0 i1 i2 i3 i4 σ = some res) : SV g (d + 1) yy_X9_mostAlike 5 [(0, .ref a0), (1, .int i1), (2, .int i2), (3, .int i3), (4, .int i4)] [] σ (.int res.1) res.2 := by
  unfold f_X9_mostAlike_5 at h
  refine lp_ind (P := fun v σ => SV g (d + 1) yy_X9_mostAlike 5 [(0, .ref a0), (1, .int i1), (2, .int i2), (3, .int v.1), (4, .int v.2)] [] σ (.int res.1) res.2) (fun k5 H5 v σ h => ?_) _ (i3, i4) σ h
  refine e_iload 4 dX9_mostAlike_5  rfl ?_
  refine e_aload_n 0 dX9_mostAlike_7 rfl rfl ?_
  refine s_geti dX9_mostAlike_8 fl_RX9_43 h_a0 ?_
  refine e_icmp_gt 110 dX9_mostAlike_11 (by decide) (fun c20 => ?_) (fun c20 => ?_)
  · rw [if_pos c20] at h
    refine e_iload_n 3 dX9_mostAlike_110 rfl rfl ?_
    obtain rfl := Option.some.inj h
    exact s_ret rfl ⟨_, rfl, rfl⟩ dX9_mostAlike_111
  · rw [if_neg c20] at h
    refine e_iconst (v := (0 : Int32)) dX9_mostAlike_14 (by decide) ?_
    refine e_istore (L' := [(0, .ref a0), (1, .int i1), (2, .int i2), (3, .int v.1), (4, .int v.2), (5, .int (0 : Int32))]) dX9_mostAlike_15  (by decide) rfl ?_
    refine e_iconst (v := (0 : Int32)) dX9_mostAlike_17 (by decide) ?_
    refine e_istore (L' := [(0, .ref a0), (1, .int i1), (2, .int i2), (3, .int v.1), (4, .int v.2), (5, .int (0 : Int32)), (6, .int (0 : Int32))]) dX9_mostAlike_18  (by decide) rfl ?_
    refine s_pick (L' := [(0, .ref a0), (1, .int i1), (2, .int i2), (3, .int v.1), (4, .int v.2), (5, .int (0 : Int32)), (6, .int (0 : Int32))]) [0, 1, 2, 3, 4, 5, 6] rfl ?_
    exact v_X9_mostAlike_20 d H5 h_a0 h
def f_X9_mostAlike (a0 : Nat) (i1 : Int32) (i2 : Int32) (σ : mm_S) : Option (Int32 × mm_S) :=
    f_X9_mostAlike_5 a0 i1 i2 (0 : Int32) (0 : Int32) σ
theorem v_X9_mostAlike {g : mm_G} (d : Nat) {a0 : Nat} {i1 : Int32} {i2 : Int32} {σ : mm_S} {res : Int32 × mm_S} (h_a0 : (mm_K a0).1 = 9) (h : f_X9_mostAlike a0 i1 i2 σ = some res) : SM g (d + 1) yy_X9_mostAlike [.ref a0, .int i1, .int i2] σ (.int res.1) res.2 := by
  refine s_of (by decide) (Nat.le_of_ble_eq_true rfl) (L := [(0, .ref a0), (1, .int i1), (2, .int i2)]) rfl ?_
  unfold f_X9_mostAlike at h
  refine e_iconst (v := (0 : Int32)) dX9_mostAlike_0 (by decide) ?_
  refine e_istore_n (L' := [(0, .ref a0), (1, .int i1), (2, .int i2), (3, .int (0 : Int32))]) dX9_mostAlike_1 rfl (by decide) rfl ?_
  refine e_iconst (v := (0 : Int32)) dX9_mostAlike_2 (by decide) ?_
  refine e_istore (L' := [(0, .ref a0), (1, .int i1), (2, .int i2), (3, .int (0 : Int32)), (4, .int (0 : Int32))]) dX9_mostAlike_3  (by decide) rfl ?_
  refine s_pick (L' := [(0, .ref a0), (1, .int i1), (2, .int i2), (3, .int (0 : Int32)), (4, .int (0 : Int32))]) [0, 1, 2, 3, 4] rfl ?_
  exact v_X9_mostAlike_5 d h_a0 h
