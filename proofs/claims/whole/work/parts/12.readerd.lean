abbrev yy_X4_signOf : mm_Y := (yX4_signOf, cX4_signOf, 2, (some .int))
theorem dX4_signOf_0 : decode cX4_signOf 0 = .ok (.iload_n 0, 1) := by decide +kernel
theorem dX4_signOf_1 : decode cX4_signOf 1 = .ok (.lookupswitch 152 #[(37, 111), (42, 105), (43, 99), (45, 102), (47, 108), (59, 149), (60, 114), (61, 127), (62, 130), (91, 143), (93, 146)], 99) := by decide +kernel
theorem dX4_signOf_100 : decode cX4_signOf 100 = .ok (.bipush 20, 2) := by decide +kernel
theorem dX4_signOf_102 : decode cX4_signOf 102 = .ok (.ireturn, 1) := by decide +kernel
theorem dX4_signOf_103 : decode cX4_signOf 103 = .ok (.bipush 21, 2) := by decide +kernel
theorem dX4_signOf_105 : decode cX4_signOf 105 = .ok (.ireturn, 1) := by decide +kernel
theorem dX4_signOf_106 : decode cX4_signOf 106 = .ok (.bipush 22, 2) := by decide +kernel
theorem dX4_signOf_108 : decode cX4_signOf 108 = .ok (.ireturn, 1) := by decide +kernel
theorem dX4_signOf_109 : decode cX4_signOf 109 = .ok (.bipush 23, 2) := by decide +kernel
theorem dX4_signOf_111 : decode cX4_signOf 111 = .ok (.ireturn, 1) := by decide +kernel
theorem dX4_signOf_112 : decode cX4_signOf 112 = .ok (.bipush 24, 2) := by decide +kernel
theorem dX4_signOf_114 : decode cX4_signOf 114 = .ok (.ireturn, 1) := by decide +kernel
theorem dX4_signOf_115 : decode cX4_signOf 115 = .ok (.iload_n 1, 1) := by decide +kernel
theorem dX4_signOf_116 : decode cX4_signOf 116 = .ok (.iconst 1, 1) := by decide +kernel
theorem dX4_signOf_117 : decode cX4_signOf 117 = .ok (.if_icmp .ne 8, 3) := by decide +kernel
theorem dX4_signOf_120 : decode cX4_signOf 120 = .ok (.bipush 25, 2) := by decide +kernel
theorem dX4_signOf_122 : decode cX4_signOf 122 = .ok (.goto 5, 3) := by decide +kernel
theorem dX4_signOf_125 : decode cX4_signOf 125 = .ok (.bipush 26, 2) := by decide +kernel
theorem dX4_signOf_127 : decode cX4_signOf 127 = .ok (.ireturn, 1) := by decide +kernel
theorem dX4_signOf_128 : decode cX4_signOf 128 = .ok (.bipush 27, 2) := by decide +kernel
theorem dX4_signOf_130 : decode cX4_signOf 130 = .ok (.ireturn, 1) := by decide +kernel
theorem dX4_signOf_131 : decode cX4_signOf 131 = .ok (.iload_n 1, 1) := by decide +kernel
theorem dX4_signOf_132 : decode cX4_signOf 132 = .ok (.iconst 1, 1) := by decide +kernel
theorem dX4_signOf_133 : decode cX4_signOf 133 = .ok (.if_icmp .ne 8, 3) := by decide +kernel
theorem dX4_signOf_136 : decode cX4_signOf 136 = .ok (.bipush 29, 2) := by decide +kernel
theorem dX4_signOf_138 : decode cX4_signOf 138 = .ok (.goto 5, 3) := by decide +kernel
theorem dX4_signOf_141 : decode cX4_signOf 141 = .ok (.bipush 28, 2) := by decide +kernel
theorem dX4_signOf_143 : decode cX4_signOf 143 = .ok (.ireturn, 1) := by decide +kernel
theorem dX4_signOf_144 : decode cX4_signOf 144 = .ok (.bipush 35, 2) := by decide +kernel
theorem dX4_signOf_146 : decode cX4_signOf 146 = .ok (.ireturn, 1) := by decide +kernel
theorem dX4_signOf_147 : decode cX4_signOf 147 = .ok (.bipush 36, 2) := by decide +kernel
theorem dX4_signOf_149 : decode cX4_signOf 149 = .ok (.ireturn, 1) := by decide +kernel
theorem dX4_signOf_150 : decode cX4_signOf 150 = .ok (.bipush 37, 2) := by decide +kernel
theorem dX4_signOf_152 : decode cX4_signOf 152 = .ok (.ireturn, 1) := by decide +kernel
theorem dX4_signOf_153 : decode cX4_signOf 153 = .ok (.bipush 38, 2) := by decide +kernel
theorem dX4_signOf_155 : decode cX4_signOf 155 = .ok (.ireturn, 1) := by decide +kernel
def f_X4_signOf (i0 : Int32) (i1 : Int32) (σ : mm_S) : Option (Int32 × mm_S) :=
    if i0 = 37 then
      some ((24 : Int32), σ)
    else
    if i0 = 42 then
      some ((22 : Int32), σ)
    else
    if i0 = 43 then
      some ((20 : Int32), σ)
    else
    if i0 = 45 then
      some ((21 : Int32), σ)
    else
    if i0 = 47 then
      some ((23 : Int32), σ)
    else
    if i0 = 59 then
      some ((37 : Int32), σ)
    else
    if i0 = 60 then
      if i1 = (1 : Int32) then
        some ((25 : Int32), σ)
      else
        some ((26 : Int32), σ)
    else
    if i0 = 61 then
      some ((27 : Int32), σ)
    else
    if i0 = 62 then
      if i1 = (1 : Int32) then
        some ((29 : Int32), σ)
      else
        some ((28 : Int32), σ)
    else
    if i0 = 91 then
      some ((35 : Int32), σ)
    else
    if i0 = 93 then
      some ((36 : Int32), σ)
    else
    some ((38 : Int32), σ)
theorem v_X4_signOf {g : mm_G} (d : Nat) {i0 : Int32} {i1 : Int32} {σ : mm_S} {res : Int32 × mm_S}  (h : f_X4_signOf i0 i1 σ = some res) : SM g (d + 0) yy_X4_signOf [.int i0, .int i1] σ (.int res.1) res.2 := by
  refine s_of (by decide) (Nat.le_of_ble_eq_true rfl) (L := [(0, .int i0), (1, .int i1)]) rfl ?_
  unfold f_X4_signOf at h
  refine e_iload_n 0 dX4_signOf_0 rfl rfl ?_
  by_cases c14 : i0 = 37
  · rw [if_pos c14] at h
    refine s_eqi c14 ?_
    refine e_look 112 dX4_signOf_1 (by decide) rfl (by decide) ?_
    refine e_bipush (v := (24 : Int32)) dX4_signOf_112 (by decide) ?_
    obtain rfl := Option.some.inj h
    exact s_ret rfl ⟨_, rfl, rfl⟩ dX4_signOf_114
  rw [if_neg c14] at h
  by_cases c15 : i0 = 42
  · rw [if_pos c15] at h
    refine s_eqi c15 ?_
    refine e_look 106 dX4_signOf_1 (by decide) rfl (by decide) ?_
    refine e_bipush (v := (22 : Int32)) dX4_signOf_106 (by decide) ?_
    obtain rfl := Option.some.inj h
    exact s_ret rfl ⟨_, rfl, rfl⟩ dX4_signOf_108
  rw [if_neg c15] at h
  by_cases c16 : i0 = 43
  · rw [if_pos c16] at h
    refine s_eqi c16 ?_
    refine e_look 100 dX4_signOf_1 (by decide) rfl (by decide) ?_
    refine e_bipush (v := (20 : Int32)) dX4_signOf_100 (by decide) ?_
    obtain rfl := Option.some.inj h
    exact s_ret rfl ⟨_, rfl, rfl⟩ dX4_signOf_102
  rw [if_neg c16] at h
  by_cases c17 : i0 = 45
  · rw [if_pos c17] at h
    refine s_eqi c17 ?_
    refine e_look 103 dX4_signOf_1 (by decide) rfl (by decide) ?_
    refine e_bipush (v := (21 : Int32)) dX4_signOf_103 (by decide) ?_
    obtain rfl := Option.some.inj h
    exact s_ret rfl ⟨_, rfl, rfl⟩ dX4_signOf_105
  rw [if_neg c17] at h
  by_cases c18 : i0 = 47
  · rw [if_pos c18] at h
    refine s_eqi c18 ?_
    refine e_look 109 dX4_signOf_1 (by decide) rfl (by decide) ?_
    refine e_bipush (v := (23 : Int32)) dX4_signOf_109 (by decide) ?_
    obtain rfl := Option.some.inj h
    exact s_ret rfl ⟨_, rfl, rfl⟩ dX4_signOf_111
  rw [if_neg c18] at h
  by_cases c19 : i0 = 59
  · rw [if_pos c19] at h
    refine s_eqi c19 ?_
    refine e_look 150 dX4_signOf_1 (by decide) rfl (by decide) ?_
    refine e_bipush (v := (37 : Int32)) dX4_signOf_150 (by decide) ?_
    obtain rfl := Option.some.inj h
    exact s_ret rfl ⟨_, rfl, rfl⟩ dX4_signOf_152
  rw [if_neg c19] at h
  by_cases c20 : i0 = 60
  · rw [if_pos c20] at h
    refine s_eqi c20 ?_
    refine e_look 115 dX4_signOf_1 (by decide) rfl (by decide) ?_
    refine e_iload_n 1 dX4_signOf_115 rfl rfl ?_
    refine e_iconst (v := (1 : Int32)) dX4_signOf_116 (by decide) ?_
    refine e_icmp_ne 125 dX4_signOf_117 (by decide) (fun c21 => ?_) (fun c21 => ?_)
    · rw [if_neg c21] at h
      refine e_bipush (v := (26 : Int32)) dX4_signOf_125 (by decide) ?_
      obtain rfl := Option.some.inj h
      exact s_ret rfl ⟨_, rfl, rfl⟩ dX4_signOf_127
    · rw [if_pos c21] at h
      refine e_bipush (v := (25 : Int32)) dX4_signOf_120 (by decide) ?_
      refine e_goto 127 dX4_signOf_122 (by decide) ?_
      obtain rfl := Option.some.inj h
      exact s_ret rfl ⟨_, rfl, rfl⟩ dX4_signOf_127
  rw [if_neg c20] at h
  by_cases c22 : i0 = 61
  · rw [if_pos c22] at h
    refine s_eqi c22 ?_
    refine e_look 128 dX4_signOf_1 (by decide) rfl (by decide) ?_
    refine e_bipush (v := (27 : Int32)) dX4_signOf_128 (by decide) ?_
    obtain rfl := Option.some.inj h
    exact s_ret rfl ⟨_, rfl, rfl⟩ dX4_signOf_130
  rw [if_neg c22] at h
  by_cases c23 : i0 = 62
  · rw [if_pos c23] at h
    refine s_eqi c23 ?_
    refine e_look 131 dX4_signOf_1 (by decide) rfl (by decide) ?_
    refine e_iload_n 1 dX4_signOf_131 rfl rfl ?_
    refine e_iconst (v := (1 : Int32)) dX4_signOf_132 (by decide) ?_
    refine e_icmp_ne 141 dX4_signOf_133 (by decide) (fun c24 => ?_) (fun c24 => ?_)
    · rw [if_neg c24] at h
      refine e_bipush (v := (28 : Int32)) dX4_signOf_141 (by decide) ?_
      obtain rfl := Option.some.inj h
      exact s_ret rfl ⟨_, rfl, rfl⟩ dX4_signOf_143
    · rw [if_pos c24] at h
      refine e_bipush (v := (29 : Int32)) dX4_signOf_136 (by decide) ?_
      refine e_goto 143 dX4_signOf_138 (by decide) ?_
      obtain rfl := Option.some.inj h
      exact s_ret rfl ⟨_, rfl, rfl⟩ dX4_signOf_143
  rw [if_neg c23] at h
  by_cases c25 : i0 = 91
  · rw [if_pos c25] at h
    refine s_eqi c25 ?_
    refine e_look 144 dX4_signOf_1 (by decide) rfl (by decide) ?_
    refine e_bipush (v := (35 : Int32)) dX4_signOf_144 (by decide) ?_
    obtain rfl := Option.some.inj h
    exact s_ret rfl ⟨_, rfl, rfl⟩ dX4_signOf_146
  rw [if_neg c25] at h
  by_cases c26 : i0 = 93
  · rw [if_pos c26] at h
    refine s_eqi c26 ?_
    refine e_look 147 dX4_signOf_1 (by decide) rfl (by decide) ?_
    refine e_bipush (v := (36 : Int32)) dX4_signOf_147 (by decide) ?_
    obtain rfl := Option.some.inj h
    exact s_ret rfl ⟨_, rfl, rfl⟩ dX4_signOf_149
  rw [if_neg c26] at h
  refine e_look (off := 152) 153 dX4_signOf_1 (by decide) ((lv_osw (a := 37) c14 rfl).trans ((lv_osw (a := 42) c15 rfl).trans ((lv_osw (a := 43) c16 rfl).trans ((lv_osw (a := 45) c17 rfl).trans ((lv_osw (a := 47) c18 rfl).trans ((lv_osw (a := 59) c19 rfl).trans ((lv_osw (a := 60) c20 rfl).trans ((lv_osw (a := 61) c22 rfl).trans ((lv_osw (a := 62) c23 rfl).trans ((lv_osw (a := 91) c25 rfl).trans ((lv_osw (a := 93) c26 rfl).trans (rfl)))))))))))) (by decide) ?_
  refine e_bipush (v := (38 : Int32)) dX4_signOf_153 (by decide) ?_
  obtain rfl := Option.some.inj h
  exact s_ret rfl ⟨_, rfl, rfl⟩ dX4_signOf_155
abbrev yy_X4_cut : mm_Y := (yX4_cut, cX4_cut, 4, none)
theorem dX4_cut_0 : decode cX4_cut 0 = .ok (.aload_n 0, 1) := by decide +kernel
theorem dX4_cut_1 : decode cX4_cut 1 = .ok (.iconst 0, 1) := by decide +kernel
theorem dX4_cut_2 : decode cX4_cut 2 = .ok (.putfield 41, 3) := by decide +kernel
theorem dX4_cut_5 : decode cX4_cut 5 = .ok (.iconst 0, 1) := by decide +kernel
theorem dX4_cut_6 : decode cX4_cut 6 = .ok (.istore_n 1, 1) := by decide +kernel
theorem dX4_cut_7 : decode cX4_cut 7 = .ok (.iconst 0, 1) := by decide +kernel
theorem dX4_cut_8 : decode cX4_cut 8 = .ok (.istore_n 2, 1) := by decide +kernel
theorem dX4_cut_9 : decode cX4_cut 9 = .ok (.iload_n 2, 1) := by decide +kernel
theorem dX4_cut_10 : decode cX4_cut 10 = .ok (.sipush 400, 3) := by decide +kernel
theorem dX4_cut_13 : decode cX4_cut 13 = .ok (.if_icmp .ge 125, 3) := by decide +kernel
theorem dX4_cut_16 : decode cX4_cut 16 = .ok (.iload_n 1, 1) := by decide +kernel
theorem dX4_cut_17 : decode cX4_cut 17 = .ok (.aload_n 0, 1) := by decide +kernel
theorem dX4_cut_18 : decode cX4_cut 18 = .ok (.getfield 21, 3) := by decide +kernel
theorem dX4_cut_21 : decode cX4_cut 21 = .ok (.getfield 53, 3) := by decide +kernel
theorem dX4_cut_24 : decode cX4_cut 24 = .ok (.if_icmp .ge 114, 3) := by decide +kernel
theorem dX4_cut_27 : decode cX4_cut 27 = .ok (.iload_n 1, 1) := by decide +kernel
theorem dX4_cut_28 : decode cX4_cut 28 = .ok (.iconst 1, 1) := by decide +kernel
theorem dX4_cut_29 : decode cX4_cut 29 = .ok (.iadd, 1) := by decide +kernel
theorem dX4_cut_30 : decode cX4_cut 30 = .ok (.istore_n 3, 1) := by decide +kernel
theorem dX4_cut_31 : decode cX4_cut 31 = .ok (.aload_n 0, 1) := by decide +kernel
theorem dX4_cut_32 : decode cX4_cut 32 = .ok (.iload_n 1, 1) := by decide +kernel
theorem dX4_cut_33 : decode cX4_cut 33 = .ok (.invokevirtual 58, 3) := by decide +kernel
theorem dX4_cut_36 : decode cX4_cut 36 = .ok (.ifCond .eq 24, 3) := by decide +kernel
theorem dX4_cut_39 : decode cX4_cut 39 = .ok (.aload_n 0, 1) := by decide +kernel
theorem dX4_cut_40 : decode cX4_cut 40 = .ok (.iload_n 1, 1) := by decide +kernel
theorem dX4_cut_41 : decode cX4_cut 41 = .ok (.invokevirtual 62, 3) := by decide +kernel
theorem dX4_cut_44 : decode cX4_cut 44 = .ok (.istore_n 3, 1) := by decide +kernel
theorem dX4_cut_45 : decode cX4_cut 45 = .ok (.aload_n 0, 1) := by decide +kernel
theorem dX4_cut_46 : decode cX4_cut 46 = .ok (.iconst 1, 1) := by decide +kernel
theorem dX4_cut_47 : decode cX4_cut 47 = .ok (.aload_n 0, 1) := by decide +kernel
theorem dX4_cut_48 : decode cX4_cut 48 = .ok (.iload_n 1, 1) := by decide +kernel
theorem dX4_cut_49 : decode cX4_cut 49 = .ok (.iload_n 3, 1) := by decide +kernel
theorem dX4_cut_50 : decode cX4_cut 50 = .ok (.invokevirtual 66, 3) := by decide +kernel
theorem dX4_cut_53 : decode cX4_cut 53 = .ok (.iload_n 1, 1) := by decide +kernel
theorem dX4_cut_54 : decode cX4_cut 54 = .ok (.invokevirtual 70, 3) := by decide +kernel
theorem dX4_cut_57 : decode cX4_cut 57 = .ok (.goto 73, 3) := by decide +kernel
theorem dX4_cut_60 : decode cX4_cut 60 = .ok (.aload_n 0, 1) := by decide +kernel
theorem dX4_cut_61 : decode cX4_cut 61 = .ok (.iload_n 1, 1) := by decide +kernel
theorem dX4_cut_62 : decode cX4_cut 62 = .ok (.invokevirtual 74, 3) := by decide +kernel
theorem dX4_cut_65 : decode cX4_cut 65 = .ok (.ifCond .eq 24, 3) := by decide +kernel
theorem dX4_cut_68 : decode cX4_cut 68 = .ok (.aload_n 0, 1) := by decide +kernel
theorem dX4_cut_69 : decode cX4_cut 69 = .ok (.iload_n 1, 1) := by decide +kernel
theorem dX4_cut_70 : decode cX4_cut 70 = .ok (.invokevirtual 77, 3) := by decide +kernel
theorem dX4_cut_73 : decode cX4_cut 73 = .ok (.istore_n 3, 1) := by decide +kernel
theorem dX4_cut_74 : decode cX4_cut 74 = .ok (.aload_n 0, 1) := by decide +kernel
theorem dX4_cut_75 : decode cX4_cut 75 = .ok (.iconst 2, 1) := by decide +kernel
theorem dX4_cut_76 : decode cX4_cut 76 = .ok (.aload_n 0, 1) := by decide +kernel
theorem dX4_cut_77 : decode cX4_cut 77 = .ok (.iload_n 1, 1) := by decide +kernel
theorem dX4_cut_78 : decode cX4_cut 78 = .ok (.iload_n 3, 1) := by decide +kernel
theorem dX4_cut_79 : decode cX4_cut 79 = .ok (.invokevirtual 80, 3) := by decide +kernel
theorem dX4_cut_82 : decode cX4_cut 82 = .ok (.iload_n 1, 1) := by decide +kernel
theorem dX4_cut_83 : decode cX4_cut 83 = .ok (.invokevirtual 70, 3) := by decide +kernel
theorem dX4_cut_86 : decode cX4_cut 86 = .ok (.goto 44, 3) := by decide +kernel
theorem dX4_cut_89 : decode cX4_cut 89 = .ok (.aload_n 0, 1) := by decide +kernel
theorem dX4_cut_90 : decode cX4_cut 90 = .ok (.getfield 21, 3) := by decide +kernel
theorem dX4_cut_93 : decode cX4_cut 93 = .ok (.getfield 83, 3) := by decide +kernel
theorem dX4_cut_96 : decode cX4_cut 96 = .ok (.iload_n 1, 1) := by decide +kernel
theorem dX4_cut_97 : decode cX4_cut 97 = .ok (.baload, 1) := by decide +kernel
theorem dX4_cut_98 : decode cX4_cut 98 = .ok (.bipush 32, 2) := by decide +kernel
theorem dX4_cut_100 : decode cX4_cut 100 = .ok (.if_icmp .eq 30, 3) := by decide +kernel
theorem dX4_cut_103 : decode cX4_cut 103 = .ok (.aload_n 0, 1) := by decide +kernel
theorem dX4_cut_104 : decode cX4_cut 104 = .ok (.iload_n 1, 1) := by decide +kernel
theorem dX4_cut_105 : decode cX4_cut 105 = .ok (.invokevirtual 87, 3) := by decide +kernel
theorem dX4_cut_108 : decode cX4_cut 108 = .ok (.istore_n 3, 1) := by decide +kernel
theorem dX4_cut_109 : decode cX4_cut 109 = .ok (.aload_n 0, 1) := by decide +kernel
theorem dX4_cut_110 : decode cX4_cut 110 = .ok (.iconst 3, 1) := by decide +kernel
theorem dX4_cut_111 : decode cX4_cut 111 = .ok (.aload_n 0, 1) := by decide +kernel
theorem dX4_cut_112 : decode cX4_cut 112 = .ok (.getfield 21, 3) := by decide +kernel
theorem dX4_cut_115 : decode cX4_cut 115 = .ok (.getfield 83, 3) := by decide +kernel
theorem dX4_cut_118 : decode cX4_cut 118 = .ok (.iload_n 1, 1) := by decide +kernel
theorem dX4_cut_119 : decode cX4_cut 119 = .ok (.baload, 1) := by decide +kernel
theorem dX4_cut_120 : decode cX4_cut 120 = .ok (.iload_n 3, 1) := by decide +kernel
theorem dX4_cut_121 : decode cX4_cut 121 = .ok (.iload_n 1, 1) := by decide +kernel
theorem dX4_cut_122 : decode cX4_cut 122 = .ok (.isub, 1) := by decide +kernel
theorem dX4_cut_123 : decode cX4_cut 123 = .ok (.invokestatic 90, 3) := by decide +kernel
theorem dX4_cut_126 : decode cX4_cut 126 = .ok (.iload_n 1, 1) := by decide +kernel
theorem dX4_cut_127 : decode cX4_cut 127 = .ok (.invokevirtual 70, 3) := by decide +kernel
theorem dX4_cut_130 : decode cX4_cut 130 = .ok (.iload_n 3, 1) := by decide +kernel
theorem dX4_cut_131 : decode cX4_cut 131 = .ok (.istore_n 1, 1) := by decide +kernel
theorem dX4_cut_132 : decode cX4_cut 132 = .ok (.iinc 2 1, 3) := by decide +kernel
theorem dX4_cut_135 : decode cX4_cut 135 = .ok (.goto (-126), 3) := by decide +kernel
theorem dX4_cut_138 : decode cX4_cut 138 = .ok (.aload_n 0, 1) := by decide +kernel
theorem dX4_cut_139 : decode cX4_cut 139 = .ok (.iconst 0, 1) := by decide +kernel
theorem dX4_cut_140 : decode cX4_cut 140 = .ok (.iconst (-1), 1) := by decide +kernel
theorem dX4_cut_141 : decode cX4_cut 141 = .ok (.aload_n 0, 1) := by decide +kernel
theorem dX4_cut_142 : decode cX4_cut 142 = .ok (.getfield 21, 3) := by decide +kernel
theorem dX4_cut_145 : decode cX4_cut 145 = .ok (.getfield 53, 3) := by decide +kernel
theorem dX4_cut_148 : decode cX4_cut 148 = .ok (.invokevirtual 70, 3) := by decide +kernel
theorem dX4_cut_151 : decode cX4_cut 151 = .ok (.return_, 1) := by decide +kernel
def f_X4_cut_138 (a0 : Nat) (σ : mm_S) : Option (mm_S) :=
    bv (f_X4_addPiece a0 (0 : Int32) (-1 : Int32) (σ.1 1 1) σ) fun σ2 =>
    some σ2
theorem v_X4_cut_138 {g : mm_G} (d : Nat) {a0 : Nat} {σ : mm_S} {res : mm_S}  (h_a0 : (mm_K a0).1 = 4) (h : f_X4_cut_138 a0 σ = some res) : SV g (d + 5) yy_X4_cut 138 [(0, .ref a0)] [] σ .null res := by
  unfold f_X4_cut_138 at h
  refine e_aload_n 0 dX4_cut_138 rfl rfl ?_
  refine e_iconst (v := (0 : Int32)) dX4_cut_139 (by decide) ?_
  refine e_iconst (v := (-1 : Int32)) dX4_cut_140 (by decide) ?_
  refine e_aload_n 0 dX4_cut_141 rfl rfl ?_
  refine s_getr dX4_cut_142 fl_RX4_21 h_a0 (r_4_0 h_a0).1 ?_
  refine s_geti dX4_cut_145 fl_RX4_53 (ka_1 (r_4_0 (w := 0) h_a0).2) ?_
  obtain ⟨σ2, q1, h⟩ := bv_some h
  refine s_callVv [.int (0 : Int32), .int (-1 : Int32), .int (σ.1 1 1)] dX4_cut_148 ml_RX4_70 h_a0 rfl rfl (v_X4_addPiece (d + 4) h_a0 q1) (Nat.le_of_ble_eq_true rfl) ?_
  obtain rfl := Option.some.inj h
  exact s_ret rfl rfl dX4_cut_151
def f_X4_cut_9 (a0 : Nat) (i1 : Int32) (i2 : Int32) (σ : mm_S) : Option (mm_S) :=
  lp lpN (fun (k9 : (Int32 × Int32) → mm_S → Option (mm_S)) (v : Int32 × Int32) (σ : mm_S) =>
    if (400 : Int32) ≤ v.2 then
      f_X4_cut_138 a0 σ
    else
      if (σ.1 1 1) ≤ v.1 then
        f_X4_cut_138 a0 σ
      else
        lt ((v.1 + (1 : Int32))) fun x5 =>
        bd (f_X4_isLetter a0 v.1 σ) fun r9 σ8 =>
        if r9 = 0 then
          bd (f_X4_isDigit a0 v.1 σ8) fun r13 σ12 =>
          if r13 = 0 then
            gd v.1 400 <|
            if (σ12.1 2 v.1.toNatClampNeg) = (32 : Int32) then
              lt (v.2 + Int32.ofInt (1)) fun x17 =>
              k9 (x5, x17) σ12
            else
              bd (f_X4_signEnd a0 v.1 σ12) fun r21 σ20 =>
              gd v.1 400 <|
              bd (f_X4_signOf (σ20.1 2 v.1.toNatClampNeg) (r21 - v.1) σ20) fun r25 σ24 =>
              bv (f_X4_addPiece a0 (3 : Int32) r25 v.1 σ24) fun σ27 =>
              lt (v.2 + Int32.ofInt (1)) fun x28 =>
              k9 (r21, x28) σ27
          else
            bd (f_X4_numberEnd a0 v.1 σ12) fun r32 σ31 =>
            bd (f_X4_numberOf a0 v.1 r32 σ31) fun r35 σ34 =>
            bv (f_X4_addPiece a0 (2 : Int32) r35 v.1 σ34) fun σ37 =>
            lt (v.2 + Int32.ofInt (1)) fun x38 =>
            k9 (r32, x38) σ37
        else
          bd (f_X4_wordEnd a0 v.1 σ8) fun r42 σ41 =>
          bd (f_X4_wordOf a0 v.1 r42 σ41) fun r45 σ44 =>
          bv (f_X4_addPiece a0 (1 : Int32) r45 v.1 σ44) fun σ47 =>
          lt (v.2 + Int32.ofInt (1)) fun x48 =>
          k9 (r42, x48) σ47) (i1, i2) σ
theorem v_X4_cut_9 {g : mm_G} (d : Nat) {a0 : Nat} {i1 : Int32} {i2 : Int32} {σ : mm_S} {res : mm_S}  (h_a0 : (mm_K a0).1 = 4) (h : f_X4_cut_9 a0 i1 i2 σ = some res) : SV g (d + 5) yy_X4_cut 9 [(0, .ref a0), (1, .int i1), (2, .int i2)] [] σ .null res := by
  unfold f_X4_cut_9 at h
  refine lp_ind (P := fun v σ => SV g (d + 5) yy_X4_cut 9 [(0, .ref a0), (1, .int v.1), (2, .int v.2)] [] σ .null res) (fun k9 H9 v σ h => ?_) _ (i1, i2) σ h
  refine e_iload_n 2 dX4_cut_9 rfl rfl ?_
  refine e_sipush (v := (400 : Int32)) dX4_cut_10 (by decide) ?_
  refine e_icmp_ge 138 dX4_cut_13 (by decide) (fun c3 => ?_) (fun c3 => ?_)
  · rw [if_pos c3] at h
    refine s_pick (L' := [(0, .ref a0)]) [0] rfl ?_
    exact v_X4_cut_138 d h_a0 h
  · rw [if_neg c3] at h
    refine e_iload_n 1 dX4_cut_16 rfl rfl ?_
    refine e_aload_n 0 dX4_cut_17 rfl rfl ?_
    refine s_getr dX4_cut_18 fl_RX4_21 h_a0 (r_4_0 h_a0).1 ?_
    refine s_geti dX4_cut_21 fl_RX4_53 (ka_1 (r_4_0 (w := 0) h_a0).2) ?_
    refine e_icmp_ge 138 dX4_cut_24 (by decide) (fun c4 => ?_) (fun c4 => ?_)
    · rw [if_pos c4] at h
      refine s_pick (L' := [(0, .ref a0)]) [0] rfl ?_
      exact v_X4_cut_138 d h_a0 h
    · rw [if_neg c4] at h
      refine e_iload_n 1 dX4_cut_27 rfl rfl ?_
      refine e_iconst (v := (1 : Int32)) dX4_cut_28 (by decide) ?_
      refine e_iadd dX4_cut_29 ?_
      obtain ⟨x5, q6, h⟩ := lt_some h
      refine s_nmi q6 ?_
      refine e_istore_n (L' := [(0, .ref a0), (1, .int v.1), (2, .int v.2), (3, .int x5)]) dX4_cut_30 rfl (by decide) rfl ?_
      refine e_aload_n 0 dX4_cut_31 rfl rfl ?_
      refine e_iload_n 1 dX4_cut_32 rfl rfl ?_
      obtain ⟨r9, σ8, q7, h⟩ := bd_some h
      refine s_callVi [.int v.1] dX4_cut_33 ml_RX4_58 h_a0 ⟨_, rfl, by decide⟩ rfl (v_X4_isLetter (d + 4) h_a0 q7) (Nat.le_of_ble_eq_true rfl) ?_
      refine e_if_eq 60 dX4_cut_36 (by decide) (fun c10 => ?_) (fun c10 => ?_)
      · rw [if_pos c10] at h
        refine e_aload_n 0 dX4_cut_60 rfl rfl ?_
        refine e_iload_n 1 dX4_cut_61 rfl rfl ?_
        obtain ⟨r13, σ12, q11, h⟩ := bd_some h
        refine s_callVi [.int v.1] dX4_cut_62 ml_RX4_74 h_a0 ⟨_, rfl, by decide⟩ rfl (v_X4_isDigit (d + 4) h_a0 q11) (Nat.le_of_ble_eq_true rfl) ?_
        refine e_if_eq 89 dX4_cut_65 (by decide) (fun c14 => ?_) (fun c14 => ?_)
        · rw [if_pos c14] at h
          refine e_aload_n 0 dX4_cut_89 rfl rfl ?_
          refine s_getr dX4_cut_90 fl_RX4_21 h_a0 (r_4_0 h_a0).1 ?_
          refine s_getr dX4_cut_93 fl_RX4_83 (ka_1 (r_4_0 (w := 0) h_a0).2) (r_6_0 (ka_1 (r_4_0 (w := 0) h_a0).2)).1 ?_
          refine e_iload_n 1 dX4_cut_96 rfl rfl ?_
          obtain ⟨q15, h⟩ := gd_some h
          refine s_bald dX4_cut_97 (r_6_0 (w := 0) (ka_1 (r_4_0 (w := 0) h_a0).2)).2 q15 ?_
          refine e_bipush (v := (32 : Int32)) dX4_cut_98 (by decide) ?_
          refine e_icmp_eq 130 dX4_cut_100 (by decide) (fun c16 => ?_) (fun c16 => ?_)
          · rw [if_pos c16] at h
            refine e_iload_n 3 dX4_cut_130 rfl rfl ?_
            refine e_istore_n (L' := [(0, .ref a0), (1, .int x5), (2, .int v.2), (3, .int x5)]) dX4_cut_131 rfl (by decide) rfl ?_
            obtain ⟨x17, q18, h⟩ := lt_some h
            refine e_iinc (v := x17) (L' := [(0, .ref a0), (1, .int x5), (2, .int x17), (3, .int x5)]) 2 dX4_cut_132 rfl q18.symm (by decide) rfl ?_
            refine e_goto 9 dX4_cut_135 (by decide) ?_
            refine s_pick (L' := [(0, .ref a0), (1, .int x5), (2, .int x17)]) [0, 1, 2] rfl ?_
            exact H9 (x5, x17) σ12 h
          · rw [if_neg c16] at h
            refine e_aload_n 0 dX4_cut_103 rfl rfl ?_
            refine e_iload_n 1 dX4_cut_104 rfl rfl ?_
            obtain ⟨r21, σ20, q19, h⟩ := bd_some h
            refine s_callVi [.int v.1] dX4_cut_105 ml_RX4_87 h_a0 ⟨_, rfl, by decide⟩ rfl (v_X4_signEnd (d + 4) h_a0 q19) (Nat.le_of_ble_eq_true rfl) ?_
            refine e_istore_n (L' := [(0, .ref a0), (1, .int v.1), (2, .int v.2), (3, .int r21)]) dX4_cut_108 rfl (by decide) rfl ?_
            refine e_aload_n 0 dX4_cut_109 rfl rfl ?_
            refine e_iconst (v := (3 : Int32)) dX4_cut_110 (by decide) ?_
            refine e_aload_n 0 dX4_cut_111 rfl rfl ?_
            refine s_getr dX4_cut_112 fl_RX4_21 h_a0 (r_4_0 h_a0).1 ?_
            refine s_getr dX4_cut_115 fl_RX4_83 (ka_1 (r_4_0 (w := 0) h_a0).2) (r_6_0 (ka_1 (r_4_0 (w := 0) h_a0).2)).1 ?_
            refine e_iload_n 1 dX4_cut_118 rfl rfl ?_
            obtain ⟨q22, h⟩ := gd_some h
            refine s_bald dX4_cut_119 (r_6_0 (w := 0) (ka_1 (r_4_0 (w := 0) h_a0).2)).2 q22 ?_
            refine e_iload_n 3 dX4_cut_120 rfl rfl ?_
            refine e_iload_n 1 dX4_cut_121 rfl rfl ?_
            refine e_isub dX4_cut_122 ?_
            obtain ⟨r25, σ24, q23, h⟩ := bd_some h
            refine s_callSi [.int (σ20.1 2 v.1.toNatClampNeg), .int (r21 - v.1)] dX4_cut_123 ml_RX4_90 ⟨_, rfl, by decide⟩ rfl (v_X4_signOf (d + 4)  q23) (Nat.le_of_ble_eq_true rfl) ?_
            refine e_iload_n 1 dX4_cut_126 rfl rfl ?_
            obtain ⟨σ27, q26, h⟩ := bv_some h
            refine s_callVv [.int (3 : Int32), .int r25, .int v.1] dX4_cut_127 ml_RX4_70 h_a0 rfl rfl (v_X4_addPiece (d + 4) h_a0 q26) (Nat.le_of_ble_eq_true rfl) ?_
            refine e_iload_n 3 dX4_cut_130 rfl rfl ?_
            refine e_istore_n (L' := [(0, .ref a0), (1, .int r21), (2, .int v.2), (3, .int r21)]) dX4_cut_131 rfl (by decide) rfl ?_
            obtain ⟨x28, q29, h⟩ := lt_some h
            refine e_iinc (v := x28) (L' := [(0, .ref a0), (1, .int r21), (2, .int x28), (3, .int r21)]) 2 dX4_cut_132 rfl q29.symm (by decide) rfl ?_
            refine e_goto 9 dX4_cut_135 (by decide) ?_
            refine s_pick (L' := [(0, .ref a0), (1, .int r21), (2, .int x28)]) [0, 1, 2] rfl ?_
            exact H9 (r21, x28) σ27 h
        · rw [if_neg c14] at h
          refine e_aload_n 0 dX4_cut_68 rfl rfl ?_
          refine e_iload_n 1 dX4_cut_69 rfl rfl ?_
          obtain ⟨r32, σ31, q30, h⟩ := bd_some h
          refine s_callVi [.int v.1] dX4_cut_70 ml_RX4_77 h_a0 ⟨_, rfl, by decide⟩ rfl (v_X4_numberEnd (d + 3) h_a0 q30) (Nat.le_of_ble_eq_true rfl) ?_
          refine e_istore_n (L' := [(0, .ref a0), (1, .int v.1), (2, .int v.2), (3, .int r32)]) dX4_cut_73 rfl (by decide) rfl ?_
          refine e_aload_n 0 dX4_cut_74 rfl rfl ?_
          refine e_iconst (v := (2 : Int32)) dX4_cut_75 (by decide) ?_
          refine e_aload_n 0 dX4_cut_76 rfl rfl ?_
          refine e_iload_n 1 dX4_cut_77 rfl rfl ?_
          refine e_iload_n 3 dX4_cut_78 rfl rfl ?_
          obtain ⟨r35, σ34, q33, h⟩ := bd_some h
          refine s_callVi [.int v.1, .int r32] dX4_cut_79 ml_RX4_80 h_a0 ⟨_, rfl, by decide⟩ rfl (v_X4_numberOf (d + 4) h_a0 q33) (Nat.le_of_ble_eq_true rfl) ?_
          refine e_iload_n 1 dX4_cut_82 rfl rfl ?_
          obtain ⟨σ37, q36, h⟩ := bv_some h
          refine s_callVv [.int (2 : Int32), .int r35, .int v.1] dX4_cut_83 ml_RX4_70 h_a0 rfl rfl (v_X4_addPiece (d + 4) h_a0 q36) (Nat.le_of_ble_eq_true rfl) ?_
          refine e_goto 130 dX4_cut_86 (by decide) ?_
          refine e_iload_n 3 dX4_cut_130 rfl rfl ?_
          refine e_istore_n (L' := [(0, .ref a0), (1, .int r32), (2, .int v.2), (3, .int r32)]) dX4_cut_131 rfl (by decide) rfl ?_
          obtain ⟨x38, q39, h⟩ := lt_some h
          refine e_iinc (v := x38) (L' := [(0, .ref a0), (1, .int r32), (2, .int x38), (3, .int r32)]) 2 dX4_cut_132 rfl q39.symm (by decide) rfl ?_
          refine e_goto 9 dX4_cut_135 (by decide) ?_
          refine s_pick (L' := [(0, .ref a0), (1, .int r32), (2, .int x38)]) [0, 1, 2] rfl ?_
          exact H9 (r32, x38) σ37 h
      · rw [if_neg c10] at h
        refine e_aload_n 0 dX4_cut_39 rfl rfl ?_
        refine e_iload_n 1 dX4_cut_40 rfl rfl ?_
        obtain ⟨r42, σ41, q40, h⟩ := bd_some h
        refine s_callVi [.int v.1] dX4_cut_41 ml_RX4_62 h_a0 ⟨_, rfl, by decide⟩ rfl (v_X4_wordEnd (d + 3) h_a0 q40) (Nat.le_of_ble_eq_true rfl) ?_
        refine e_istore_n (L' := [(0, .ref a0), (1, .int v.1), (2, .int v.2), (3, .int r42)]) dX4_cut_44 rfl (by decide) rfl ?_
        refine e_aload_n 0 dX4_cut_45 rfl rfl ?_
        refine e_iconst (v := (1 : Int32)) dX4_cut_46 (by decide) ?_
        refine e_aload_n 0 dX4_cut_47 rfl rfl ?_
        refine e_iload_n 1 dX4_cut_48 rfl rfl ?_
        refine e_iload_n 3 dX4_cut_49 rfl rfl ?_
        obtain ⟨r45, σ44, q43, h⟩ := bd_some h
        refine s_callVi [.int v.1, .int r42] dX4_cut_50 ml_RX4_66 h_a0 ⟨_, rfl, by decide⟩ rfl (v_X4_wordOf (d + 0) h_a0 q43) (Nat.le_of_ble_eq_true rfl) ?_
        refine e_iload_n 1 dX4_cut_53 rfl rfl ?_
        obtain ⟨σ47, q46, h⟩ := bv_some h
        refine s_callVv [.int (1 : Int32), .int r45, .int v.1] dX4_cut_54 ml_RX4_70 h_a0 rfl rfl (v_X4_addPiece (d + 4) h_a0 q46) (Nat.le_of_ble_eq_true rfl) ?_
        refine e_goto 130 dX4_cut_57 (by decide) ?_
        refine e_iload_n 3 dX4_cut_130 rfl rfl ?_
        refine e_istore_n (L' := [(0, .ref a0), (1, .int r42), (2, .int v.2), (3, .int r42)]) dX4_cut_131 rfl (by decide) rfl ?_
        obtain ⟨x48, q49, h⟩ := lt_some h
        refine e_iinc (v := x48) (L' := [(0, .ref a0), (1, .int r42), (2, .int x48), (3, .int r42)]) 2 dX4_cut_132 rfl q49.symm (by decide) rfl ?_
        refine e_goto 9 dX4_cut_135 (by decide) ?_
        refine s_pick (L' := [(0, .ref a0), (1, .int r42), (2, .int x48)]) [0, 1, 2] rfl ?_
        exact H9 (r42, x48) σ47 h
def f_X4_cut (a0 : Nat) (σ : mm_S) : Option (mm_S) :=
    lt (su_i σ a0 4 (0 : Int32)) fun σ52 =>
    f_X4_cut_9 a0 (0 : Int32) (0 : Int32) σ52
theorem v_X4_cut {g : mm_G} (d : Nat) {a0 : Nat} {σ : mm_S} {res : mm_S} (h_a0 : (mm_K a0).1 = 4) (h : f_X4_cut a0 σ = some res) : SM g (d + 5) yy_X4_cut [.ref a0] σ .null res := by
  refine s_of (by decide) (Nat.le_of_ble_eq_true rfl) (L := [(0, .ref a0)]) rfl ?_
  unfold f_X4_cut at h
  refine e_aload_n 0 dX4_cut_0 rfl rfl ?_
  refine e_iconst (v := (0 : Int32)) dX4_cut_1 (by decide) ?_
  refine s_puti dX4_cut_2 fl_RX4_41 h_a0 rfl rfl rfl ?_
  obtain ⟨σ52, q53, h⟩ := lt_some h
  refine s_nms q53 ?_
  refine e_iconst (v := (0 : Int32)) dX4_cut_5 (by decide) ?_
  refine e_istore_n (L' := [(0, .ref a0), (1, .int (0 : Int32))]) dX4_cut_6 rfl (by decide) rfl ?_
  refine e_iconst (v := (0 : Int32)) dX4_cut_7 (by decide) ?_
  refine e_istore_n (L' := [(0, .ref a0), (1, .int (0 : Int32)), (2, .int (0 : Int32))]) dX4_cut_8 rfl (by decide) rfl ?_
  refine s_pick (L' := [(0, .ref a0), (1, .int (0 : Int32)), (2, .int (0 : Int32))]) [0, 1, 2] rfl ?_
  exact v_X4_cut_9 d h_a0 h
abbrev yy_X4_begin : mm_Y := (yX4_begin, cX4_begin, 1, none)
theorem dX4_begin_0 : decode cX4_begin 0 = .ok (.aload_n 0, 1) := by decide +kernel
theorem dX4_begin_1 : decode cX4_begin 1 = .ok (.invokevirtual 25, 3) := by decide +kernel
theorem dX4_begin_4 : decode cX4_begin 4 = .ok (.aload_n 0, 1) := by decide +kernel
theorem dX4_begin_5 : decode cX4_begin 5 = .ok (.iconst 0, 1) := by decide +kernel
theorem dX4_begin_6 : decode cX4_begin 6 = .ok (.putfield 28, 3) := by decide +kernel
theorem dX4_begin_9 : decode cX4_begin 9 = .ok (.aload_n 0, 1) := by decide +kernel
theorem dX4_begin_10 : decode cX4_begin 10 = .ok (.iconst 0, 1) := by decide +kernel
theorem dX4_begin_11 : decode cX4_begin 11 = .ok (.putfield 32, 3) := by decide +kernel
theorem dX4_begin_14 : decode cX4_begin 14 = .ok (.aload_n 0, 1) := by decide +kernel
theorem dX4_begin_15 : decode cX4_begin 15 = .ok (.iconst (-1), 1) := by decide +kernel
theorem dX4_begin_16 : decode cX4_begin 16 = .ok (.putfield 35, 3) := by decide +kernel
theorem dX4_begin_19 : decode cX4_begin 19 = .ok (.aload_n 0, 1) := by decide +kernel
theorem dX4_begin_20 : decode cX4_begin 20 = .ok (.invokevirtual 38, 3) := by decide +kernel
theorem dX4_begin_23 : decode cX4_begin 23 = .ok (.return_, 1) := by decide +kernel
def f_X4_begin (a0 : Nat) (σ : mm_S) : Option (mm_S) :=
    bv (f_X4_cut a0 σ) fun σ12 =>
    lt (su_i σ12 a0 9 (0 : Int32)) fun σ13 =>
    lt (su_i σ13 a0 10 (0 : Int32)) fun σ15 =>
    lt (su_i σ15 a0 5 (-1 : Int32)) fun σ17 =>
    bv (f_X4_step a0 σ17) fun σ20 =>
    some σ20
theorem v_X4_begin {g : mm_G} (d : Nat) {a0 : Nat} {σ : mm_S} {res : mm_S} (h_a0 : (mm_K a0).1 = 4) (h : f_X4_begin a0 σ = some res) : SM g (d + 6) yy_X4_begin [.ref a0] σ .null res := by
  refine s_of (by decide) (Nat.le_of_ble_eq_true rfl) (L := [(0, .ref a0)]) rfl ?_
  unfold f_X4_begin at h
  refine e_aload_n 0 dX4_begin_0 rfl rfl ?_
  obtain ⟨σ12, q11, h⟩ := bv_some h
  refine s_callVv [] dX4_begin_1 ml_RX4_25 h_a0 rfl rfl (v_X4_cut (d + 0) h_a0 q11) (Nat.le_of_ble_eq_true rfl) ?_
  refine e_aload_n 0 dX4_begin_4 rfl rfl ?_
  refine e_iconst (v := (0 : Int32)) dX4_begin_5 (by decide) ?_
  refine s_puti dX4_begin_6 fl_RX4_28 h_a0 rfl rfl rfl ?_
  obtain ⟨σ13, q14, h⟩ := lt_some h
  refine s_nms q14 ?_
  refine e_aload_n 0 dX4_begin_9 rfl rfl ?_
  refine e_iconst (v := (0 : Int32)) dX4_begin_10 (by decide) ?_
  refine s_puti dX4_begin_11 fl_RX4_32 h_a0 rfl rfl rfl ?_
  obtain ⟨σ15, q16, h⟩ := lt_some h
  refine s_nms q16 ?_
  refine e_aload_n 0 dX4_begin_14 rfl rfl ?_
  refine e_iconst (v := (-1 : Int32)) dX4_begin_15 (by decide) ?_
  refine s_puti dX4_begin_16 fl_RX4_35 h_a0 rfl rfl rfl ?_
  obtain ⟨σ17, q18, h⟩ := lt_some h
  refine s_nms q18 ?_
  refine e_aload_n 0 dX4_begin_19 rfl rfl ?_
  obtain ⟨σ20, q19, h⟩ := bv_some h
  refine s_callVv [] dX4_begin_20 ml_RX4_38 h_a0 rfl rfl (v_X4_step (d + 5) h_a0 q19) (Nat.le_of_ble_eq_true rfl) ?_
  obtain rfl := Option.some.inj h
  exact s_ret rfl rfl dX4_begin_23
abbrev yy_X4_readNumber : mm_Y := (yX4_readNumber, cX4_readNumber, 5, (some .int))
theorem dX4_readNumber_0 : decode cX4_readNumber 0 = .ok (.aload_n 0, 1) := by decide +kernel
theorem dX4_readNumber_1 : decode cX4_readNumber 1 = .ok (.getfield 28, 3) := by decide +kernel
theorem dX4_readNumber_4 : decode cX4_readNumber 4 = .ok (.ifCond .eq 5, 3) := by decide +kernel
theorem dX4_readNumber_7 : decode cX4_readNumber 7 = .ok (.iconst 0, 1) := by decide +kernel
theorem dX4_readNumber_8 : decode cX4_readNumber 8 = .ok (.ireturn, 1) := by decide +kernel
theorem dX4_readNumber_9 : decode cX4_readNumber 9 = .ok (.aload_n 0, 1) := by decide +kernel
theorem dX4_readNumber_10 : decode cX4_readNumber 10 = .ok (.getfield 47, 3) := by decide +kernel
theorem dX4_readNumber_13 : decode cX4_readNumber 13 = .ok (.istore 4, 2) := by decide +kernel
theorem dX4_readNumber_15 : decode cX4_readNumber 15 = .ok (.aload_n 0, 1) := by decide +kernel
theorem dX4_readNumber_16 : decode cX4_readNumber 16 = .ok (.getfield 44, 3) := by decide +kernel
theorem dX4_readNumber_19 : decode cX4_readNumber 19 = .ok (.iconst 2, 1) := by decide +kernel
theorem dX4_readNumber_20 : decode cX4_readNumber 20 = .ok (.if_icmp .eq 10, 3) := by decide +kernel
theorem dX4_readNumber_23 : decode cX4_readNumber 23 = .ok (.aload_n 0, 1) := by decide +kernel
theorem dX4_readNumber_24 : decode cX4_readNumber 24 = .ok (.iconst 0, 1) := by decide +kernel
theorem dX4_readNumber_25 : decode cX4_readNumber 25 = .ok (.invokevirtual 123, 3) := by decide +kernel
theorem dX4_readNumber_28 : decode cX4_readNumber 28 = .ok (.iconst 0, 1) := by decide +kernel
theorem dX4_readNumber_29 : decode cX4_readNumber 29 = .ok (.ireturn, 1) := by decide +kernel
theorem dX4_readNumber_30 : decode cX4_readNumber 30 = .ok (.iload 4, 2) := by decide +kernel
theorem dX4_readNumber_32 : decode cX4_readNumber 32 = .ok (.iload_n 1, 1) := by decide +kernel
theorem dX4_readNumber_33 : decode cX4_readNumber 33 = .ok (.if_icmp .lt 15, 3) := by decide +kernel
theorem dX4_readNumber_36 : decode cX4_readNumber 36 = .ok (.iload 4, 2) := by decide +kernel
theorem dX4_readNumber_38 : decode cX4_readNumber 38 = .ok (.iload_n 2, 1) := by decide +kernel
theorem dX4_readNumber_39 : decode cX4_readNumber 39 = .ok (.if_icmp .gt 9, 3) := by decide +kernel
theorem dX4_readNumber_42 : decode cX4_readNumber 42 = .ok (.iload 4, 2) := by decide +kernel
theorem dX4_readNumber_44 : decode cX4_readNumber 44 = .ok (.iload_n 3, 1) := by decide +kernel
theorem dX4_readNumber_45 : decode cX4_readNumber 45 = .ok (.if_icmp .ne 10, 3) := by decide +kernel
theorem dX4_readNumber_48 : decode cX4_readNumber 48 = .ok (.aload_n 0, 1) := by decide +kernel
theorem dX4_readNumber_49 : decode cX4_readNumber 49 = .ok (.iconst 1, 1) := by decide +kernel
theorem dX4_readNumber_50 : decode cX4_readNumber 50 = .ok (.invokevirtual 123, 3) := by decide +kernel
theorem dX4_readNumber_53 : decode cX4_readNumber 53 = .ok (.iconst 0, 1) := by decide +kernel
theorem dX4_readNumber_54 : decode cX4_readNumber 54 = .ok (.ireturn, 1) := by decide +kernel
theorem dX4_readNumber_55 : decode cX4_readNumber 55 = .ok (.aload_n 0, 1) := by decide +kernel
theorem dX4_readNumber_56 : decode cX4_readNumber 56 = .ok (.invokevirtual 38, 3) := by decide +kernel
theorem dX4_readNumber_59 : decode cX4_readNumber 59 = .ok (.iload 4, 2) := by decide +kernel
theorem dX4_readNumber_61 : decode cX4_readNumber 61 = .ok (.ireturn, 1) := by decide +kernel
def f_X4_readNumber (a0 : Nat) (i1 : Int32) (i2 : Int32) (i3 : Int32) (σ : mm_S) : Option (Int32 × mm_S) :=
    if (σ.1 a0 9) = 0 then
      lt ((σ.1 a0 7)) fun x19 =>
      if (σ.1 a0 6) = (2 : Int32) then
        if x19 < i1 then
          bv (f_X4_fail a0 (1 : Int32) σ) fun σ24 =>
          some ((0 : Int32), σ24)
        else
          if i2 < x19 then
            bv (f_X4_fail a0 (1 : Int32) σ) fun σ27 =>
            some ((0 : Int32), σ27)
          else
            if x19 = i3 then
              bv (f_X4_fail a0 (1 : Int32) σ) fun σ32 =>
              some ((0 : Int32), σ32)
            else
              bv (f_X4_step a0 σ) fun σ30 =>
              some (x19, σ30)
      else
        bv (f_X4_fail a0 (0 : Int32) σ) fun σ34 =>
        some ((0 : Int32), σ34)
    else
      some ((0 : Int32), σ)
theorem v_X4_readNumber {g : mm_G} (d : Nat) {a0 : Nat} {i1 : Int32} {i2 : Int32} {i3 : Int32} {σ : mm_S} {res : Int32 × mm_S} (h_a0 : (mm_K a0).1 = 4) (h : f_X4_readNumber a0 i1 i2 i3 σ = some res) : SM g (d + 1) yy_X4_readNumber [.ref a0, .int i1, .int i2, .int i3] σ (.int res.1) res.2 := by
  refine s_of (by decide) (Nat.le_of_ble_eq_true rfl) (L := [(0, .ref a0), (1, .int i1), (2, .int i2), (3, .int i3)]) rfl ?_
  unfold f_X4_readNumber at h
  refine e_aload_n 0 dX4_readNumber_0 rfl rfl ?_
  refine s_geti dX4_readNumber_1 fl_RX4_28 h_a0 ?_
  refine e_if_eq 9 dX4_readNumber_4 (by decide) (fun c18 => ?_) (fun c18 => ?_)
  · rw [if_pos c18] at h
    refine e_aload_n 0 dX4_readNumber_9 rfl rfl ?_
    refine s_geti dX4_readNumber_10 fl_RX4_47 h_a0 ?_
    obtain ⟨x19, q20, h⟩ := lt_some h
    refine s_nmi q20 ?_
    refine e_istore (L' := [(0, .ref a0), (1, .int i1), (2, .int i2), (3, .int i3), (4, .int x19)]) dX4_readNumber_13  (by decide) rfl ?_
    refine e_aload_n 0 dX4_readNumber_15 rfl rfl ?_
    refine s_geti dX4_readNumber_16 fl_RX4_44 h_a0 ?_
    refine e_iconst (v := (2 : Int32)) dX4_readNumber_19 (by decide) ?_
    refine e_icmp_eq 30 dX4_readNumber_20 (by decide) (fun c21 => ?_) (fun c21 => ?_)
    · rw [if_pos c21] at h
      refine e_iload 4 dX4_readNumber_30  rfl ?_
      refine e_iload_n 1 dX4_readNumber_32 rfl rfl ?_
      refine e_icmp_lt 48 dX4_readNumber_33 (by decide) (fun c22 => ?_) (fun c22 => ?_)
      · rw [if_pos c22] at h
        refine e_aload_n 0 dX4_readNumber_48 rfl rfl ?_
        refine e_iconst (v := (1 : Int32)) dX4_readNumber_49 (by decide) ?_
        obtain ⟨σ24, q23, h⟩ := bv_some h
        refine s_callVv [.int (1 : Int32)] dX4_readNumber_50 ml_RX4_123 h_a0 rfl rfl (v_X4_fail (d + 0) h_a0 q23) (Nat.le_of_ble_eq_true rfl) ?_
        refine e_iconst (v := (0 : Int32)) dX4_readNumber_53 (by decide) ?_
        obtain rfl := Option.some.inj h
        exact s_ret rfl ⟨_, rfl, rfl⟩ dX4_readNumber_54
      · rw [if_neg c22] at h
        refine e_iload 4 dX4_readNumber_36  rfl ?_
        refine e_iload_n 2 dX4_readNumber_38 rfl rfl ?_
        refine e_icmp_gt 48 dX4_readNumber_39 (by decide) (fun c25 => ?_) (fun c25 => ?_)
        · rw [if_pos c25] at h
          refine e_aload_n 0 dX4_readNumber_48 rfl rfl ?_
          refine e_iconst (v := (1 : Int32)) dX4_readNumber_49 (by decide) ?_
          obtain ⟨σ27, q26, h⟩ := bv_some h
          refine s_callVv [.int (1 : Int32)] dX4_readNumber_50 ml_RX4_123 h_a0 rfl rfl (v_X4_fail (d + 0) h_a0 q26) (Nat.le_of_ble_eq_true rfl) ?_
          refine e_iconst (v := (0 : Int32)) dX4_readNumber_53 (by decide) ?_
          obtain rfl := Option.some.inj h
          exact s_ret rfl ⟨_, rfl, rfl⟩ dX4_readNumber_54
        · rw [if_neg c25] at h
          refine e_iload 4 dX4_readNumber_42  rfl ?_
          refine e_iload_n 3 dX4_readNumber_44 rfl rfl ?_
          refine e_icmp_ne 55 dX4_readNumber_45 (by decide) (fun c28 => ?_) (fun c28 => ?_)
          · rw [if_neg c28] at h
            refine e_aload_n 0 dX4_readNumber_55 rfl rfl ?_
            obtain ⟨σ30, q29, h⟩ := bv_some h
            refine s_callVv [] dX4_readNumber_56 ml_RX4_38 h_a0 rfl rfl (v_X4_step (d + 0) h_a0 q29) (Nat.le_of_ble_eq_true rfl) ?_
            refine e_iload 4 dX4_readNumber_59  rfl ?_
            obtain rfl := Option.some.inj h
            exact s_ret rfl ⟨_, rfl, rfl⟩ dX4_readNumber_61
          · rw [if_pos c28] at h
            refine e_aload_n 0 dX4_readNumber_48 rfl rfl ?_
            refine e_iconst (v := (1 : Int32)) dX4_readNumber_49 (by decide) ?_
            obtain ⟨σ32, q31, h⟩ := bv_some h
            refine s_callVv [.int (1 : Int32)] dX4_readNumber_50 ml_RX4_123 h_a0 rfl rfl (v_X4_fail (d + 0) h_a0 q31) (Nat.le_of_ble_eq_true rfl) ?_
            refine e_iconst (v := (0 : Int32)) dX4_readNumber_53 (by decide) ?_
            obtain rfl := Option.some.inj h
            exact s_ret rfl ⟨_, rfl, rfl⟩ dX4_readNumber_54
    · rw [if_neg c21] at h
      refine e_aload_n 0 dX4_readNumber_23 rfl rfl ?_
      refine e_iconst (v := (0 : Int32)) dX4_readNumber_24 (by decide) ?_
      obtain ⟨σ34, q33, h⟩ := bv_some h
      refine s_callVv [.int (0 : Int32)] dX4_readNumber_25 ml_RX4_123 h_a0 rfl rfl (v_X4_fail (d + 0) h_a0 q33) (Nat.le_of_ble_eq_true rfl) ?_
      refine e_iconst (v := (0 : Int32)) dX4_readNumber_28 (by decide) ?_
      obtain rfl := Option.some.inj h
      exact s_ret rfl ⟨_, rfl, rfl⟩ dX4_readNumber_29
  · rw [if_neg c18] at h
    refine e_iconst (v := (0 : Int32)) dX4_readNumber_7 (by decide) ?_
    obtain rfl := Option.some.inj h
    exact s_ret rfl ⟨_, rfl, rfl⟩ dX4_readNumber_8
abbrev yy_X4_readHouseClause : mm_Y := (yX4_readHouseClause, cX4_readHouseClause, 9, none)
theorem dX4_readHouseClause_0 : decode cX4_readHouseClause 0 = .ok (.aload_n 0, 1) := by decide +kernel
theorem dX4_readHouseClause_1 : decode cX4_readHouseClause 1 = .ok (.bipush 13, 2) := by decide +kernel
theorem dX4_readHouseClause_3 : decode cX4_readHouseClause 3 = .ok (.invokevirtual 127, 3) := by decide +kernel
theorem dX4_readHouseClause_6 : decode cX4_readHouseClause 6 = .ok (.istore_n 3, 1) := by decide +kernel
theorem dX4_readHouseClause_7 : decode cX4_readHouseClause 7 = .ok (.aload_n 0, 1) := by decide +kernel
theorem dX4_readHouseClause_8 : decode cX4_readHouseClause 8 = .ok (.iconst 0, 1) := by decide +kernel
theorem dX4_readHouseClause_9 : decode cX4_readHouseClause 9 = .ok (.invokevirtual 127, 3) := by decide +kernel
theorem dX4_readHouseClause_12 : decode cX4_readHouseClause 12 = .ok (.istore 4, 2) := by decide +kernel
theorem dX4_readHouseClause_14 : decode cX4_readHouseClause 14 = .ok (.aload_n 0, 1) := by decide +kernel
theorem dX4_readHouseClause_15 : decode cX4_readHouseClause 15 = .ok (.bipush 6, 2) := by decide +kernel
theorem dX4_readHouseClause_17 : decode cX4_readHouseClause 17 = .ok (.invokevirtual 127, 3) := by decide +kernel
theorem dX4_readHouseClause_20 : decode cX4_readHouseClause 20 = .ok (.istore 5, 2) := by decide +kernel
theorem dX4_readHouseClause_22 : decode cX4_readHouseClause 22 = .ok (.iload_n 3, 1) := by decide +kernel
theorem dX4_readHouseClause_23 : decode cX4_readHouseClause 23 = .ok (.ifCond .ne 28, 3) := by decide +kernel
theorem dX4_readHouseClause_26 : decode cX4_readHouseClause 26 = .ok (.iload 4, 2) := by decide +kernel
theorem dX4_readHouseClause_28 : decode cX4_readHouseClause 28 = .ok (.ifCond .ne 23, 3) := by decide +kernel
theorem dX4_readHouseClause_31 : decode cX4_readHouseClause 31 = .ok (.iload 5, 2) := by decide +kernel
theorem dX4_readHouseClause_33 : decode cX4_readHouseClause 33 = .ok (.ifCond .ne 18, 3) := by decide +kernel
theorem dX4_readHouseClause_36 : decode cX4_readHouseClause 36 = .ok (.aload_n 0, 1) := by decide +kernel
theorem dX4_readHouseClause_37 : decode cX4_readHouseClause 37 = .ok (.bipush 14, 2) := by decide +kernel
theorem dX4_readHouseClause_39 : decode cX4_readHouseClause 39 = .ok (.invokevirtual 127, 3) := by decide +kernel
theorem dX4_readHouseClause_42 : decode cX4_readHouseClause 42 = .ok (.ifCond .ne 9, 3) := by decide +kernel
theorem dX4_readHouseClause_45 : decode cX4_readHouseClause 45 = .ok (.aload_n 0, 1) := by decide +kernel
theorem dX4_readHouseClause_46 : decode cX4_readHouseClause 46 = .ok (.iconst 0, 1) := by decide +kernel
theorem dX4_readHouseClause_47 : decode cX4_readHouseClause 47 = .ok (.invokevirtual 123, 3) := by decide +kernel
theorem dX4_readHouseClause_50 : decode cX4_readHouseClause 50 = .ok (.return_, 1) := by decide +kernel
theorem dX4_readHouseClause_51 : decode cX4_readHouseClause 51 = .ok (.iload_n 2, 1) := by decide +kernel
theorem dX4_readHouseClause_52 : decode cX4_readHouseClause 52 = .ok (.ifCond .ne 7, 3) := by decide +kernel
theorem dX4_readHouseClause_55 : decode cX4_readHouseClause 55 = .ok (.iconst 1, 1) := by decide +kernel
theorem dX4_readHouseClause_56 : decode cX4_readHouseClause 56 = .ok (.goto 4, 3) := by decide +kernel
theorem dX4_readHouseClause_59 : decode cX4_readHouseClause 59 = .ok (.iconst 0, 1) := by decide +kernel
theorem dX4_readHouseClause_60 : decode cX4_readHouseClause 60 = .ok (.istore 6, 2) := by decide +kernel
theorem dX4_readHouseClause_62 : decode cX4_readHouseClause 62 = .ok (.iload_n 2, 1) := by decide +kernel
theorem dX4_readHouseClause_63 : decode cX4_readHouseClause 63 = .ok (.bipush 40, 2) := by decide +kernel
theorem dX4_readHouseClause_65 : decode cX4_readHouseClause 65 = .ok (.if_icmp .ge 23, 3) := by decide +kernel
theorem dX4_readHouseClause_68 : decode cX4_readHouseClause 68 = .ok (.iload_n 3, 1) := by decide +kernel
theorem dX4_readHouseClause_69 : decode cX4_readHouseClause 69 = .ok (.iload 6, 2) := by decide +kernel
theorem dX4_readHouseClause_71 : decode cX4_readHouseClause 71 = .ok (.if_icmp .ne 17, 3) := by decide +kernel
theorem dX4_readHouseClause_74 : decode cX4_readHouseClause 74 = .ok (.iload 4, 2) := by decide +kernel
theorem dX4_readHouseClause_76 : decode cX4_readHouseClause 76 = .ok (.ifCond .eq 18, 3) := by decide +kernel
theorem dX4_readHouseClause_79 : decode cX4_readHouseClause 79 = .ok (.aload_n 1, 1) := by decide +kernel
theorem dX4_readHouseClause_80 : decode cX4_readHouseClause 80 = .ok (.getfield 130, 3) := by decide +kernel
theorem dX4_readHouseClause_83 : decode cX4_readHouseClause 83 = .ok (.bipush 6, 2) := by decide +kernel
theorem dX4_readHouseClause_85 : decode cX4_readHouseClause 85 = .ok (.if_icmp .lt 9, 3) := by decide +kernel
theorem dX4_readHouseClause_88 : decode cX4_readHouseClause 88 = .ok (.aload_n 0, 1) := by decide +kernel
theorem dX4_readHouseClause_89 : decode cX4_readHouseClause 89 = .ok (.iconst 4, 1) := by decide +kernel
theorem dX4_readHouseClause_90 : decode cX4_readHouseClause 90 = .ok (.invokevirtual 123, 3) := by decide +kernel
theorem dX4_readHouseClause_93 : decode cX4_readHouseClause 93 = .ok (.return_, 1) := by decide +kernel
theorem dX4_readHouseClause_94 : decode cX4_readHouseClause 94 = .ok (.aload_n 0, 1) := by decide +kernel
theorem dX4_readHouseClause_95 : decode cX4_readHouseClause 95 = .ok (.invokevirtual 38, 3) := by decide +kernel
theorem dX4_readHouseClause_98 : decode cX4_readHouseClause 98 = .ok (.iload_n 3, 1) := by decide +kernel
theorem dX4_readHouseClause_99 : decode cX4_readHouseClause 99 = .ok (.ifCond .eq 30, 3) := by decide +kernel
theorem dX4_readHouseClause_102 : decode cX4_readHouseClause 102 = .ok (.aload_n 1, 1) := by decide +kernel
theorem dX4_readHouseClause_103 : decode cX4_readHouseClause 103 = .ok (.aload_n 0, 1) := by decide +kernel
theorem dX4_readHouseClause_104 : decode cX4_readHouseClause 104 = .ok (.iconst 1, 1) := by decide +kernel
theorem dX4_readHouseClause_105 : decode cX4_readHouseClause 105 = .ok (.bipush 9, 2) := by decide +kernel
theorem dX4_readHouseClause_107 : decode cX4_readHouseClause 107 = .ok (.iconst (-1), 1) := by decide +kernel
theorem dX4_readHouseClause_108 : decode cX4_readHouseClause 108 = .ok (.invokevirtual 133, 3) := by decide +kernel
theorem dX4_readHouseClause_111 : decode cX4_readHouseClause 111 = .ok (.putfield 137, 3) := by decide +kernel
theorem dX4_readHouseClause_114 : decode cX4_readHouseClause 114 = .ok (.aload_n 1, 1) := by decide +kernel
theorem dX4_readHouseClause_115 : decode cX4_readHouseClause 115 = .ok (.aload_n 0, 1) := by decide +kernel
theorem dX4_readHouseClause_116 : decode cX4_readHouseClause 116 = .ok (.iconst 0, 1) := by decide +kernel
theorem dX4_readHouseClause_117 : decode cX4_readHouseClause 117 = .ok (.bipush 7, 2) := by decide +kernel
theorem dX4_readHouseClause_119 : decode cX4_readHouseClause 119 = .ok (.iconst (-1), 1) := by decide +kernel
theorem dX4_readHouseClause_120 : decode cX4_readHouseClause 120 = .ok (.invokevirtual 133, 3) := by decide +kernel
theorem dX4_readHouseClause_123 : decode cX4_readHouseClause 123 = .ok (.putfield 140, 3) := by decide +kernel
theorem dX4_readHouseClause_126 : decode cX4_readHouseClause 126 = .ok (.goto 107, 3) := by decide +kernel
theorem dX4_readHouseClause_129 : decode cX4_readHouseClause 129 = .ok (.iload 4, 2) := by decide +kernel
theorem dX4_readHouseClause_131 : decode cX4_readHouseClause 131 = .ok (.ifCond .eq 30, 3) := by decide +kernel
theorem dX4_readHouseClause_134 : decode cX4_readHouseClause 134 = .ok (.aload_n 0, 1) := by decide +kernel
theorem dX4_readHouseClause_135 : decode cX4_readHouseClause 135 = .ok (.iconst 0, 1) := by decide +kernel
theorem dX4_readHouseClause_136 : decode cX4_readHouseClause 136 = .ok (.bipush 60, 2) := by decide +kernel
theorem dX4_readHouseClause_138 : decode cX4_readHouseClause 138 = .ok (.iconst (-1), 1) := by decide +kernel
theorem dX4_readHouseClause_139 : decode cX4_readHouseClause 139 = .ok (.invokevirtual 133, 3) := by decide +kernel
theorem dX4_readHouseClause_142 : decode cX4_readHouseClause 142 = .ok (.istore 7, 2) := by decide +kernel
theorem dX4_readHouseClause_144 : decode cX4_readHouseClause 144 = .ok (.aload_n 1, 1) := by decide +kernel
theorem dX4_readHouseClause_145 : decode cX4_readHouseClause 145 = .ok (.iload 7, 2) := by decide +kernel
theorem dX4_readHouseClause_147 : decode cX4_readHouseClause 147 = .ok (.aload_n 0, 1) := by decide +kernel
theorem dX4_readHouseClause_148 : decode cX4_readHouseClause 148 = .ok (.iconst 0, 1) := by decide +kernel
theorem dX4_readHouseClause_149 : decode cX4_readHouseClause 149 = .ok (.bipush 99, 2) := by decide +kernel
theorem dX4_readHouseClause_151 : decode cX4_readHouseClause 151 = .ok (.iconst (-1), 1) := by decide +kernel
theorem dX4_readHouseClause_152 : decode cX4_readHouseClause 152 = .ok (.invokevirtual 133, 3) := by decide +kernel
theorem dX4_readHouseClause_155 : decode cX4_readHouseClause 155 = .ok (.invokevirtual 143, 3) := by decide +kernel
theorem dX4_readHouseClause_158 : decode cX4_readHouseClause 158 = .ok (.goto 75, 3) := by decide +kernel
theorem dX4_readHouseClause_161 : decode cX4_readHouseClause 161 = .ok (.iload 5, 2) := by decide +kernel
theorem dX4_readHouseClause_163 : decode cX4_readHouseClause 163 = .ok (.ifCond .eq 51, 3) := by decide +kernel
theorem dX4_readHouseClause_166 : decode cX4_readHouseClause 166 = .ok (.aload_n 0, 1) := by decide +kernel
theorem dX4_readHouseClause_167 : decode cX4_readHouseClause 167 = .ok (.iconst 0, 1) := by decide +kernel
theorem dX4_readHouseClause_168 : decode cX4_readHouseClause 168 = .ok (.aload_n 1, 1) := by decide +kernel
theorem dX4_readHouseClause_169 : decode cX4_readHouseClause 169 = .ok (.getfield 130, 3) := by decide +kernel
theorem dX4_readHouseClause_172 : decode cX4_readHouseClause 172 = .ok (.iconst 1, 1) := by decide +kernel
theorem dX4_readHouseClause_173 : decode cX4_readHouseClause 173 = .ok (.isub, 1) := by decide +kernel
theorem dX4_readHouseClause_174 : decode cX4_readHouseClause 174 = .ok (.iconst (-1), 1) := by decide +kernel
theorem dX4_readHouseClause_175 : decode cX4_readHouseClause 175 = .ok (.invokevirtual 133, 3) := by decide +kernel
theorem dX4_readHouseClause_178 : decode cX4_readHouseClause 178 = .ok (.istore 7, 2) := by decide +kernel
theorem dX4_readHouseClause_180 : decode cX4_readHouseClause 180 = .ok (.aload_n 0, 1) := by decide +kernel
theorem dX4_readHouseClause_181 : decode cX4_readHouseClause 181 = .ok (.iconst 0, 1) := by decide +kernel
theorem dX4_readHouseClause_182 : decode cX4_readHouseClause 182 = .ok (.aload_n 1, 1) := by decide +kernel
theorem dX4_readHouseClause_183 : decode cX4_readHouseClause 183 = .ok (.getfield 130, 3) := by decide +kernel
theorem dX4_readHouseClause_186 : decode cX4_readHouseClause 186 = .ok (.iconst 1, 1) := by decide +kernel
theorem dX4_readHouseClause_187 : decode cX4_readHouseClause 187 = .ok (.isub, 1) := by decide +kernel
theorem dX4_readHouseClause_188 : decode cX4_readHouseClause 188 = .ok (.iload 7, 2) := by decide +kernel
theorem dX4_readHouseClause_190 : decode cX4_readHouseClause 190 = .ok (.invokevirtual 133, 3) := by decide +kernel
theorem dX4_readHouseClause_193 : decode cX4_readHouseClause 193 = .ok (.istore 8, 2) := by decide +kernel
theorem dX4_readHouseClause_195 : decode cX4_readHouseClause 195 = .ok (.aload_n 1, 1) := by decide +kernel
theorem dX4_readHouseClause_196 : decode cX4_readHouseClause 196 = .ok (.iload 7, 2) := by decide +kernel
theorem dX4_readHouseClause_198 : decode cX4_readHouseClause 198 = .ok (.iload 8, 2) := by decide +kernel
theorem dX4_readHouseClause_200 : decode cX4_readHouseClause 200 = .ok (.aload_n 0, 1) := by decide +kernel
theorem dX4_readHouseClause_201 : decode cX4_readHouseClause 201 = .ok (.iconst 0, 1) := by decide +kernel
theorem dX4_readHouseClause_202 : decode cX4_readHouseClause 202 = .ok (.bipush 9, 2) := by decide +kernel
theorem dX4_readHouseClause_204 : decode cX4_readHouseClause 204 = .ok (.iconst (-1), 1) := by decide +kernel
theorem dX4_readHouseClause_205 : decode cX4_readHouseClause 205 = .ok (.invokevirtual 133, 3) := by decide +kernel
theorem dX4_readHouseClause_208 : decode cX4_readHouseClause 208 = .ok (.invokevirtual 147, 3) := by decide +kernel
theorem dX4_readHouseClause_211 : decode cX4_readHouseClause 211 = .ok (.goto 22, 3) := by decide +kernel
theorem dX4_readHouseClause_214 : decode cX4_readHouseClause 214 = .ok (.aload_n 1, 1) := by decide +kernel
theorem dX4_readHouseClause_215 : decode cX4_readHouseClause 215 = .ok (.dup, 1) := by decide +kernel
theorem dX4_readHouseClause_216 : decode cX4_readHouseClause 216 = .ok (.getfield 150, 3) := by decide +kernel
theorem dX4_readHouseClause_219 : decode cX4_readHouseClause 219 = .ok (.iconst 1, 1) := by decide +kernel
theorem dX4_readHouseClause_220 : decode cX4_readHouseClause 220 = .ok (.aload_n 0, 1) := by decide +kernel
theorem dX4_readHouseClause_221 : decode cX4_readHouseClause 221 = .ok (.iconst 0, 1) := by decide +kernel
theorem dX4_readHouseClause_222 : decode cX4_readHouseClause 222 = .ok (.bipush 11, 2) := by decide +kernel
theorem dX4_readHouseClause_224 : decode cX4_readHouseClause 224 = .ok (.iconst (-1), 1) := by decide +kernel
theorem dX4_readHouseClause_225 : decode cX4_readHouseClause 225 = .ok (.invokevirtual 133, 3) := by decide +kernel
theorem dX4_readHouseClause_228 : decode cX4_readHouseClause 228 = .ok (.ishl, 1) := by decide +kernel
theorem dX4_readHouseClause_229 : decode cX4_readHouseClause 229 = .ok (.ior, 1) := by decide +kernel
theorem dX4_readHouseClause_230 : decode cX4_readHouseClause 230 = .ok (.putfield 150, 3) := by decide +kernel
theorem dX4_readHouseClause_233 : decode cX4_readHouseClause 233 = .ok (.return_, 1) := by decide +kernel
def f_X4_readHouseClause_94 (a0 : Nat) (a1 : Nat) (i3 : Int32) (i4 : Int32) (i5 : Int32) (σ : mm_S) : Option (mm_S) :=
    bv (f_X4_step a0 σ) fun σ2 =>
    if i3 = 0 then
      if i4 = 0 then
        if i5 = 0 then
          bd (f_X4_readNumber a0 (0 : Int32) (11 : Int32) (-1 : Int32) σ2) fun r8 σ7 =>
          lt (su_i σ7 a1 4 ((σ2.1 a1 4) ||| ((1 : Int32) <<< (r8 &&& 31)))) fun σ9 =>
          some σ9
        else
          bd (f_X4_readNumber a0 (0 : Int32) ((σ2.1 a1 3) - (1 : Int32)) (-1 : Int32) σ2) fun r13 σ12 =>
          bd (f_X4_readNumber a0 (0 : Int32) ((σ12.1 a1 3) - (1 : Int32)) r13 σ12) fun r16 σ15 =>
          bd (f_X4_readNumber a0 (0 : Int32) (9 : Int32) (-1 : Int32) σ15) fun r19 σ18 =>
          bv (f_X1_setDearness a1 r13 r16 r19 σ18) fun σ21 =>
          some σ21
      else
        bd (f_X4_readNumber a0 (0 : Int32) (60 : Int32) (-1 : Int32) σ2) fun r24 σ23 =>
        bd (f_X4_readNumber a0 (0 : Int32) (99 : Int32) (-1 : Int32) σ23) fun r27 σ26 =>
        bv (f_X1_addLodger a1 r24 r27 σ26) fun σ29 =>
        some σ29
    else
      bd (f_X4_readNumber a0 (1 : Int32) (9 : Int32) (-1 : Int32) σ2) fun r32 σ31 =>
      lt (su_i σ31 a1 1 r32) fun σ33 =>
      bd (f_X4_readNumber a0 (0 : Int32) (7 : Int32) (-1 : Int32) σ33) fun r37 σ36 =>
      lt (su_i σ36 a1 2 r37) fun σ38 =>
      some σ38
theorem v_X4_readHouseClause_94 {g : mm_G} (d : Nat) {a0 : Nat} {a1 : Nat} {i3 : Int32} {i4 : Int32} {i5 : Int32} {σ : mm_S} {res : mm_S}  (h_a0 : (mm_K a0).1 = 4) (h_a1 : (mm_K a1).1 = 1) (h : f_X4_readHouseClause_94 a0 a1 i3 i4 i5 σ = some res) : SV g (d + 2) yy_X4_readHouseClause 94 [(0, .ref a0), (1, .ref a1), (3, .int i3), (4, .int i4), (5, .int i5)] [] σ .null res := by
  unfold f_X4_readHouseClause_94 at h
  refine e_aload_n 0 dX4_readHouseClause_94 rfl rfl ?_
  obtain ⟨σ2, q1, h⟩ := bv_some h
  refine s_callVv [] dX4_readHouseClause_95 ml_RX4_38 h_a0 rfl rfl (v_X4_step (d + 1) h_a0 q1) (Nat.le_of_ble_eq_true rfl) ?_
  refine e_iload_n 2 dX4_readHouseClause_98 rfl rfl ?_
  refine e_if_eq 129 dX4_readHouseClause_99 (by decide) (fun c3 => ?_) (fun c3 => ?_)
  · rw [if_pos c3] at h
    refine e_iload 3 dX4_readHouseClause_129  rfl ?_
    refine e_if_eq 161 dX4_readHouseClause_131 (by decide) (fun c4 => ?_) (fun c4 => ?_)
    · rw [if_pos c4] at h
      refine e_iload 4 dX4_readHouseClause_161  rfl ?_
      refine e_if_eq 214 dX4_readHouseClause_163 (by decide) (fun c5 => ?_) (fun c5 => ?_)
      · rw [if_pos c5] at h
        refine e_aload_n 1 dX4_readHouseClause_214 rfl rfl ?_
        refine e_dup dX4_readHouseClause_215 rfl ?_
        refine s_geti dX4_readHouseClause_216 fl_RX4_150 h_a1 ?_
        refine e_iconst (v := (1 : Int32)) dX4_readHouseClause_219 (by decide) ?_
        refine e_aload_n 0 dX4_readHouseClause_220 rfl rfl ?_
        refine e_iconst (v := (0 : Int32)) dX4_readHouseClause_221 (by decide) ?_
        refine e_bipush (v := (11 : Int32)) dX4_readHouseClause_222 (by decide) ?_
        refine e_iconst (v := (-1 : Int32)) dX4_readHouseClause_224 (by decide) ?_
        obtain ⟨r8, σ7, q6, h⟩ := bd_some h
        refine s_callVi [.int (0 : Int32), .int (11 : Int32), .int (-1 : Int32)] dX4_readHouseClause_225 ml_RX4_133 h_a0 ⟨_, rfl, by decide⟩ rfl (v_X4_readNumber (d + 0) h_a0 q6) (Nat.le_of_ble_eq_true rfl) ?_
        refine e_ishl dX4_readHouseClause_228 ?_
        refine e_ior dX4_readHouseClause_229 ?_
        refine s_puti dX4_readHouseClause_230 fl_RX4_150 h_a1 rfl rfl rfl ?_
        obtain ⟨σ9, q10, h⟩ := lt_some h
        refine s_nms q10 ?_
        obtain rfl := Option.some.inj h
        exact s_ret rfl rfl dX4_readHouseClause_233
      · rw [if_neg c5] at h
        refine e_aload_n 0 dX4_readHouseClause_166 rfl rfl ?_
        refine e_iconst (v := (0 : Int32)) dX4_readHouseClause_167 (by decide) ?_
        refine e_aload_n 1 dX4_readHouseClause_168 rfl rfl ?_
        refine s_geti dX4_readHouseClause_169 fl_RX4_130 h_a1 ?_
        refine e_iconst (v := (1 : Int32)) dX4_readHouseClause_172 (by decide) ?_
        refine e_isub dX4_readHouseClause_173 ?_
        refine e_iconst (v := (-1 : Int32)) dX4_readHouseClause_174 (by decide) ?_
        obtain ⟨r13, σ12, q11, h⟩ := bd_some h
        refine s_callVi [.int (0 : Int32), .int ((σ2.1 a1 3) - (1 : Int32)), .int (-1 : Int32)] dX4_readHouseClause_175 ml_RX4_133 h_a0 ⟨_, rfl, by decide⟩ rfl (v_X4_readNumber (d + 0) h_a0 q11) (Nat.le_of_ble_eq_true rfl) ?_
        refine e_istore (L' := [(0, .ref a0), (1, .ref a1), (3, .int i3), (4, .int i4), (5, .int i5), (7, .int r13)]) dX4_readHouseClause_178  (by decide) rfl ?_
        refine e_aload_n 0 dX4_readHouseClause_180 rfl rfl ?_
        refine e_iconst (v := (0 : Int32)) dX4_readHouseClause_181 (by decide) ?_
        refine e_aload_n 1 dX4_readHouseClause_182 rfl rfl ?_
        refine s_geti dX4_readHouseClause_183 fl_RX4_130 h_a1 ?_
        refine e_iconst (v := (1 : Int32)) dX4_readHouseClause_186 (by decide) ?_
        refine e_isub dX4_readHouseClause_187 ?_
        refine e_iload 5 dX4_readHouseClause_188  rfl ?_
        obtain ⟨r16, σ15, q14, h⟩ := bd_some h
        refine s_callVi [.int (0 : Int32), .int ((σ12.1 a1 3) - (1 : Int32)), .int r13] dX4_readHouseClause_190 ml_RX4_133 h_a0 ⟨_, rfl, by decide⟩ rfl (v_X4_readNumber (d + 0) h_a0 q14) (Nat.le_of_ble_eq_true rfl) ?_
        refine e_istore (L' := [(0, .ref a0), (1, .ref a1), (3, .int i3), (4, .int i4), (5, .int i5), (7, .int r13), (8, .int r16)]) dX4_readHouseClause_193  (by decide) rfl ?_
        refine e_aload_n 1 dX4_readHouseClause_195 rfl rfl ?_
        refine e_iload 5 dX4_readHouseClause_196  rfl ?_
        refine e_iload 6 dX4_readHouseClause_198  rfl ?_
        refine e_aload_n 0 dX4_readHouseClause_200 rfl rfl ?_
        refine e_iconst (v := (0 : Int32)) dX4_readHouseClause_201 (by decide) ?_
        refine e_bipush (v := (9 : Int32)) dX4_readHouseClause_202 (by decide) ?_
        refine e_iconst (v := (-1 : Int32)) dX4_readHouseClause_204 (by decide) ?_
        obtain ⟨r19, σ18, q17, h⟩ := bd_some h
        refine s_callVi [.int (0 : Int32), .int (9 : Int32), .int (-1 : Int32)] dX4_readHouseClause_205 ml_RX4_133 h_a0 ⟨_, rfl, by decide⟩ rfl (v_X4_readNumber (d + 0) h_a0 q17) (Nat.le_of_ble_eq_true rfl) ?_
        obtain ⟨σ21, q20, h⟩ := bv_some h
        refine s_callVv [.int r13, .int r16, .int r19] dX4_readHouseClause_208 ml_RX4_147 h_a1 rfl rfl (v_X1_setDearness (d + 1) h_a1 q20) (Nat.le_of_ble_eq_true rfl) ?_
        refine e_goto 233 dX4_readHouseClause_211 (by decide) ?_
        obtain rfl := Option.some.inj h
        exact s_ret rfl rfl dX4_readHouseClause_233
    · rw [if_neg c4] at h
      refine e_aload_n 0 dX4_readHouseClause_134 rfl rfl ?_
      refine e_iconst (v := (0 : Int32)) dX4_readHouseClause_135 (by decide) ?_
      refine e_bipush (v := (60 : Int32)) dX4_readHouseClause_136 (by decide) ?_
      refine e_iconst (v := (-1 : Int32)) dX4_readHouseClause_138 (by decide) ?_
      obtain ⟨r24, σ23, q22, h⟩ := bd_some h
      refine s_callVi [.int (0 : Int32), .int (60 : Int32), .int (-1 : Int32)] dX4_readHouseClause_139 ml_RX4_133 h_a0 ⟨_, rfl, by decide⟩ rfl (v_X4_readNumber (d + 0) h_a0 q22) (Nat.le_of_ble_eq_true rfl) ?_
      refine e_istore (L' := [(0, .ref a0), (1, .ref a1), (3, .int i3), (4, .int i4), (5, .int i5), (7, .int r24)]) dX4_readHouseClause_142  (by decide) rfl ?_
      refine e_aload_n 1 dX4_readHouseClause_144 rfl rfl ?_
      refine e_iload 5 dX4_readHouseClause_145  rfl ?_
      refine e_aload_n 0 dX4_readHouseClause_147 rfl rfl ?_
      refine e_iconst (v := (0 : Int32)) dX4_readHouseClause_148 (by decide) ?_
      refine e_bipush (v := (99 : Int32)) dX4_readHouseClause_149 (by decide) ?_
      refine e_iconst (v := (-1 : Int32)) dX4_readHouseClause_151 (by decide) ?_
      obtain ⟨r27, σ26, q25, h⟩ := bd_some h
      refine s_callVi [.int (0 : Int32), .int (99 : Int32), .int (-1 : Int32)] dX4_readHouseClause_152 ml_RX4_133 h_a0 ⟨_, rfl, by decide⟩ rfl (v_X4_readNumber (d + 0) h_a0 q25) (Nat.le_of_ble_eq_true rfl) ?_
      obtain ⟨σ29, q28, h⟩ := bv_some h
      refine s_callVv [.int r24, .int r27] dX4_readHouseClause_155 ml_RX4_143 h_a1 rfl rfl (v_X1_addLodger (d + 1) h_a1 q28) (Nat.le_of_ble_eq_true rfl) ?_
      refine e_goto 233 dX4_readHouseClause_158 (by decide) ?_
      obtain rfl := Option.some.inj h
      exact s_ret rfl rfl dX4_readHouseClause_233
  · rw [if_neg c3] at h
    refine e_aload_n 1 dX4_readHouseClause_102 rfl rfl ?_
    refine e_aload_n 0 dX4_readHouseClause_103 rfl rfl ?_
    refine e_iconst (v := (1 : Int32)) dX4_readHouseClause_104 (by decide) ?_
    refine e_bipush (v := (9 : Int32)) dX4_readHouseClause_105 (by decide) ?_
    refine e_iconst (v := (-1 : Int32)) dX4_readHouseClause_107 (by decide) ?_
    obtain ⟨r32, σ31, q30, h⟩ := bd_some h
    refine s_callVi [.int (1 : Int32), .int (9 : Int32), .int (-1 : Int32)] dX4_readHouseClause_108 ml_RX4_133 h_a0 ⟨_, rfl, by decide⟩ rfl (v_X4_readNumber (d + 0) h_a0 q30) (Nat.le_of_ble_eq_true rfl) ?_
    refine s_puti dX4_readHouseClause_111 fl_RX4_137 h_a1 rfl rfl rfl ?_
    obtain ⟨σ33, q34, h⟩ := lt_some h
    refine s_nms q34 ?_
    refine e_aload_n 1 dX4_readHouseClause_114 rfl rfl ?_
    refine e_aload_n 0 dX4_readHouseClause_115 rfl rfl ?_
    refine e_iconst (v := (0 : Int32)) dX4_readHouseClause_116 (by decide) ?_
    refine e_bipush (v := (7 : Int32)) dX4_readHouseClause_117 (by decide) ?_
    refine e_iconst (v := (-1 : Int32)) dX4_readHouseClause_119 (by decide) ?_
    obtain ⟨r37, σ36, q35, h⟩ := bd_some h
    refine s_callVi [.int (0 : Int32), .int (7 : Int32), .int (-1 : Int32)] dX4_readHouseClause_120 ml_RX4_133 h_a0 ⟨_, rfl, by decide⟩ rfl (v_X4_readNumber (d + 0) h_a0 q35) (Nat.le_of_ble_eq_true rfl) ?_
    refine s_puti dX4_readHouseClause_123 fl_RX4_140 h_a1 rfl rfl rfl ?_
    obtain ⟨σ38, q39, h⟩ := lt_some h
    refine s_nms q39 ?_
    refine e_goto 233 dX4_readHouseClause_126 (by decide) ?_
    obtain rfl := Option.some.inj h
    exact s_ret rfl rfl dX4_readHouseClause_233
def f_X4_readHouseClause_60 (a0 : Nat) (a1 : Nat) (i2 : Int32) (i3 : Int32) (i4 : Int32) (i5 : Int32) (s0 : Int32) (σ : mm_S) : Option (mm_S) :=
    if (40 : Int32) ≤ i2 then
      bv (f_X4_fail a0 (4 : Int32) σ) fun σ42 =>
      some σ42
    else
      if i3 = s0 then
        if i4 = 0 then
          f_X4_readHouseClause_94 a0 a1 i3 i4 i5 σ
        else
          if (σ.1 a1 3) < (6 : Int32) then
            f_X4_readHouseClause_94 a0 a1 i3 i4 i5 σ
          else
            bv (f_X4_fail a0 (4 : Int32) σ) fun σ49 =>
            some σ49
      else
        bv (f_X4_fail a0 (4 : Int32) σ) fun σ45 =>
        some σ45
theorem v_X4_readHouseClause_60 {g : mm_G} (d : Nat) {a0 : Nat} {a1 : Nat} {i2 : Int32} {i3 : Int32} {i4 : Int32} {i5 : Int32} {s0 : Int32} {σ : mm_S} {res : mm_S}  (h_a0 : (mm_K a0).1 = 4) (h_a1 : (mm_K a1).1 = 1) (h : f_X4_readHouseClause_60 a0 a1 i2 i3 i4 i5 s0 σ = some res) : SV g (d + 2) yy_X4_readHouseClause 60 [(0, .ref a0), (1, .ref a1), (2, .int i2), (3, .int i3), (4, .int i4), (5, .int i5)] [.int s0] σ .null res := by
  unfold f_X4_readHouseClause_60 at h
  refine e_istore (L' := [(0, .ref a0), (1, .ref a1), (2, .int i2), (3, .int i3), (4, .int i4), (5, .int i5), (6, .int s0)]) dX4_readHouseClause_60  (by decide) rfl ?_
  refine e_iload_n 2 dX4_readHouseClause_62 rfl rfl ?_
  refine e_bipush (v := (40 : Int32)) dX4_readHouseClause_63 (by decide) ?_
  refine e_icmp_ge 88 dX4_readHouseClause_65 (by decide) (fun c40 => ?_) (fun c40 => ?_)
  · rw [if_pos c40] at h
    refine e_aload_n 0 dX4_readHouseClause_88 rfl rfl ?_
    refine e_iconst (v := (4 : Int32)) dX4_readHouseClause_89 (by decide) ?_
    obtain ⟨σ42, q41, h⟩ := bv_some h
    refine s_callVv [.int (4 : Int32)] dX4_readHouseClause_90 ml_RX4_123 h_a0 rfl rfl (v_X4_fail (d + 1) h_a0 q41) (Nat.le_of_ble_eq_true rfl) ?_
    obtain rfl := Option.some.inj h
    exact s_ret rfl rfl dX4_readHouseClause_93
  · rw [if_neg c40] at h
    refine e_iload_n 3 dX4_readHouseClause_68 rfl rfl ?_
    refine e_iload 6 dX4_readHouseClause_69  rfl ?_
    refine e_icmp_ne 88 dX4_readHouseClause_71 (by decide) (fun c43 => ?_) (fun c43 => ?_)
    · rw [if_neg c43] at h
      refine e_aload_n 0 dX4_readHouseClause_88 rfl rfl ?_
      refine e_iconst (v := (4 : Int32)) dX4_readHouseClause_89 (by decide) ?_
      obtain ⟨σ45, q44, h⟩ := bv_some h
      refine s_callVv [.int (4 : Int32)] dX4_readHouseClause_90 ml_RX4_123 h_a0 rfl rfl (v_X4_fail (d + 1) h_a0 q44) (Nat.le_of_ble_eq_true rfl) ?_
      obtain rfl := Option.some.inj h
      exact s_ret rfl rfl dX4_readHouseClause_93
    · rw [if_pos c43] at h
      refine e_iload 4 dX4_readHouseClause_74  rfl ?_
      refine e_if_eq 94 dX4_readHouseClause_76 (by decide) (fun c46 => ?_) (fun c46 => ?_)
      · rw [if_pos c46] at h
        refine s_pick (L' := [(0, .ref a0), (1, .ref a1), (3, .int i3), (4, .int i4), (5, .int i5)]) [0, 1, 3, 4, 5] rfl ?_
        exact v_X4_readHouseClause_94 d h_a0 h_a1 h
      · rw [if_neg c46] at h
        refine e_aload_n 1 dX4_readHouseClause_79 rfl rfl ?_
        refine s_geti dX4_readHouseClause_80 fl_RX4_130 h_a1 ?_
        refine e_bipush (v := (6 : Int32)) dX4_readHouseClause_83 (by decide) ?_
        refine e_icmp_lt 94 dX4_readHouseClause_85 (by decide) (fun c47 => ?_) (fun c47 => ?_)
        · rw [if_pos c47] at h
          refine s_pick (L' := [(0, .ref a0), (1, .ref a1), (3, .int i3), (4, .int i4), (5, .int i5)]) [0, 1, 3, 4, 5] rfl ?_
          exact v_X4_readHouseClause_94 d h_a0 h_a1 h
        · rw [if_neg c47] at h
          refine e_aload_n 0 dX4_readHouseClause_88 rfl rfl ?_
          refine e_iconst (v := (4 : Int32)) dX4_readHouseClause_89 (by decide) ?_
          obtain ⟨σ49, q48, h⟩ := bv_some h
          refine s_callVv [.int (4 : Int32)] dX4_readHouseClause_90 ml_RX4_123 h_a0 rfl rfl (v_X4_fail (d + 1) h_a0 q48) (Nat.le_of_ble_eq_true rfl) ?_
          obtain rfl := Option.some.inj h
          exact s_ret rfl rfl dX4_readHouseClause_93
def f_X4_readHouseClause_51 (a0 : Nat) (a1 : Nat) (i2 : Int32) (i3 : Int32) (i4 : Int32) (i5 : Int32) (σ : mm_S) : Option (mm_S) :=
    if i2 = 0 then
      f_X4_readHouseClause_60 a0 a1 i2 i3 i4 i5 (1 : Int32) σ
    else
      f_X4_readHouseClause_60 a0 a1 i2 i3 i4 i5 (0 : Int32) σ
theorem v_X4_readHouseClause_51 {g : mm_G} (d : Nat) {a0 : Nat} {a1 : Nat} {i2 : Int32} {i3 : Int32} {i4 : Int32} {i5 : Int32} {σ : mm_S} {res : mm_S}  (h_a0 : (mm_K a0).1 = 4) (h_a1 : (mm_K a1).1 = 1) (h : f_X4_readHouseClause_51 a0 a1 i2 i3 i4 i5 σ = some res) : SV g (d + 2) yy_X4_readHouseClause 51 [(0, .ref a0), (1, .ref a1), (2, .int i2), (3, .int i3), (4, .int i4), (5, .int i5)] [] σ .null res := by
  unfold f_X4_readHouseClause_51 at h
  refine e_iload_n 2 dX4_readHouseClause_51 rfl rfl ?_
  refine e_if_ne 59 dX4_readHouseClause_52 (by decide) (fun c50 => ?_) (fun c50 => ?_)
  · rw [if_neg c50] at h
    refine e_iconst (v := (0 : Int32)) dX4_readHouseClause_59 (by decide) ?_
    refine s_pick (L' := [(0, .ref a0), (1, .ref a1), (2, .int i2), (3, .int i3), (4, .int i4), (5, .int i5)]) [0, 1, 2, 3, 4, 5] rfl ?_
    exact v_X4_readHouseClause_60 d h_a0 h_a1 h
  · rw [if_pos c50] at h
    refine e_iconst (v := (1 : Int32)) dX4_readHouseClause_55 (by decide) ?_
    refine e_goto 60 dX4_readHouseClause_56 (by decide) ?_
    refine s_pick (L' := [(0, .ref a0), (1, .ref a1), (2, .int i2), (3, .int i3), (4, .int i4), (5, .int i5)]) [0, 1, 2, 3, 4, 5] rfl ?_
    exact v_X4_readHouseClause_60 d h_a0 h_a1 h
def f_X4_readHouseClause (a0 : Nat) (a1 : Nat) (i2 : Int32) (σ : mm_S) : Option (mm_S) :=
    bd (f_X4_isWord a0 (13 : Int32) σ) fun r71 σ70 =>
    bd (f_X4_isWord a0 (0 : Int32) σ70) fun r74 σ73 =>
    bd (f_X4_isWord a0 (6 : Int32) σ73) fun r77 σ76 =>
    if r71 = 0 then
      if r74 = 0 then
        if r77 = 0 then
          bd (f_X4_isWord a0 (14 : Int32) σ76) fun r83 σ82 =>
          if r83 = 0 then
            bv (f_X4_fail a0 (0 : Int32) σ82) fun σ86 =>
            some σ86
          else
            f_X4_readHouseClause_51 a0 a1 i2 r71 r74 r77 σ82
        else
          f_X4_readHouseClause_51 a0 a1 i2 r71 r74 r77 σ76
      else
        f_X4_readHouseClause_51 a0 a1 i2 r71 r74 r77 σ76
    else
      f_X4_readHouseClause_51 a0 a1 i2 r71 r74 r77 σ76
theorem v_X4_readHouseClause {g : mm_G} (d : Nat) {a0 : Nat} {a1 : Nat} {i2 : Int32} {σ : mm_S} {res : mm_S} (h_a0 : (mm_K a0).1 = 4) (h_a1 : (mm_K a1).1 = 1) (h : f_X4_readHouseClause a0 a1 i2 σ = some res) : SM g (d + 2) yy_X4_readHouseClause [.ref a0, .ref a1, .int i2] σ .null res := by
  refine s_of (by decide) (Nat.le_of_ble_eq_true rfl) (L := [(0, .ref a0), (1, .ref a1), (2, .int i2)]) rfl ?_
  unfold f_X4_readHouseClause at h
  refine e_aload_n 0 dX4_readHouseClause_0 rfl rfl ?_
  refine e_bipush (v := (13 : Int32)) dX4_readHouseClause_1 (by decide) ?_
  obtain ⟨r71, σ70, q69, h⟩ := bd_some h
  refine s_callVi [.int (13 : Int32)] dX4_readHouseClause_3 ml_RX4_127 h_a0 ⟨_, rfl, by decide⟩ rfl (v_X4_isWord (d + 1) h_a0 q69) (Nat.le_of_ble_eq_true rfl) ?_
  refine e_istore_n (L' := [(0, .ref a0), (1, .ref a1), (2, .int i2), (3, .int r71)]) dX4_readHouseClause_6 rfl (by decide) rfl ?_
  refine e_aload_n 0 dX4_readHouseClause_7 rfl rfl ?_
  refine e_iconst (v := (0 : Int32)) dX4_readHouseClause_8 (by decide) ?_
  obtain ⟨r74, σ73, q72, h⟩ := bd_some h
  refine s_callVi [.int (0 : Int32)] dX4_readHouseClause_9 ml_RX4_127 h_a0 ⟨_, rfl, by decide⟩ rfl (v_X4_isWord (d + 1) h_a0 q72) (Nat.le_of_ble_eq_true rfl) ?_
  refine e_istore (L' := [(0, .ref a0), (1, .ref a1), (2, .int i2), (3, .int r71), (4, .int r74)]) dX4_readHouseClause_12  (by decide) rfl ?_
  refine e_aload_n 0 dX4_readHouseClause_14 rfl rfl ?_
  refine e_bipush (v := (6 : Int32)) dX4_readHouseClause_15 (by decide) ?_
  obtain ⟨r77, σ76, q75, h⟩ := bd_some h
  refine s_callVi [.int (6 : Int32)] dX4_readHouseClause_17 ml_RX4_127 h_a0 ⟨_, rfl, by decide⟩ rfl (v_X4_isWord (d + 1) h_a0 q75) (Nat.le_of_ble_eq_true rfl) ?_
  refine e_istore (L' := [(0, .ref a0), (1, .ref a1), (2, .int i2), (3, .int r71), (4, .int r74), (5, .int r77)]) dX4_readHouseClause_20  (by decide) rfl ?_
  refine e_iload_n 3 dX4_readHouseClause_22 rfl rfl ?_
  refine e_if_ne 51 dX4_readHouseClause_23 (by decide) (fun c78 => ?_) (fun c78 => ?_)
  · rw [if_neg c78] at h
    refine s_pick (L' := [(0, .ref a0), (1, .ref a1), (2, .int i2), (3, .int r71), (4, .int r74), (5, .int r77)]) [0, 1, 2, 3, 4, 5] rfl ?_
    exact v_X4_readHouseClause_51 d h_a0 h_a1 h
  · rw [if_pos c78] at h
    refine e_iload 4 dX4_readHouseClause_26  rfl ?_
    refine e_if_ne 51 dX4_readHouseClause_28 (by decide) (fun c79 => ?_) (fun c79 => ?_)
    · rw [if_neg c79] at h
      refine s_pick (L' := [(0, .ref a0), (1, .ref a1), (2, .int i2), (3, .int r71), (4, .int r74), (5, .int r77)]) [0, 1, 2, 3, 4, 5] rfl ?_
      exact v_X4_readHouseClause_51 d h_a0 h_a1 h
    · rw [if_pos c79] at h
      refine e_iload 5 dX4_readHouseClause_31  rfl ?_
      refine e_if_ne 51 dX4_readHouseClause_33 (by decide) (fun c80 => ?_) (fun c80 => ?_)
      · rw [if_neg c80] at h
        refine s_pick (L' := [(0, .ref a0), (1, .ref a1), (2, .int i2), (3, .int r71), (4, .int r74), (5, .int r77)]) [0, 1, 2, 3, 4, 5] rfl ?_
        exact v_X4_readHouseClause_51 d h_a0 h_a1 h
      · rw [if_pos c80] at h
        refine e_aload_n 0 dX4_readHouseClause_36 rfl rfl ?_
        refine e_bipush (v := (14 : Int32)) dX4_readHouseClause_37 (by decide) ?_
        obtain ⟨r83, σ82, q81, h⟩ := bd_some h
        refine s_callVi [.int (14 : Int32)] dX4_readHouseClause_39 ml_RX4_127 h_a0 ⟨_, rfl, by decide⟩ rfl (v_X4_isWord (d + 1) h_a0 q81) (Nat.le_of_ble_eq_true rfl) ?_
        refine e_if_ne 51 dX4_readHouseClause_42 (by decide) (fun c84 => ?_) (fun c84 => ?_)
        · rw [if_neg c84] at h
          refine s_pick (L' := [(0, .ref a0), (1, .ref a1), (2, .int i2), (3, .int r71), (4, .int r74), (5, .int r77)]) [0, 1, 2, 3, 4, 5] rfl ?_
          exact v_X4_readHouseClause_51 d h_a0 h_a1 h
        · rw [if_pos c84] at h
          refine e_aload_n 0 dX4_readHouseClause_45 rfl rfl ?_
          refine e_iconst (v := (0 : Int32)) dX4_readHouseClause_46 (by decide) ?_
          obtain ⟨σ86, q85, h⟩ := bv_some h
          refine s_callVv [.int (0 : Int32)] dX4_readHouseClause_47 ml_RX4_123 h_a0 rfl rfl (v_X4_fail (d + 1) h_a0 q85) (Nat.le_of_ble_eq_true rfl) ?_
          obtain rfl := Option.some.inj h
          exact s_ret rfl rfl dX4_readHouseClause_50
