abbrev yy_X9_dear : mm_Y := (yX9_dear, cX9_dear, 3, (some .int))
theorem dX9_dear_0 : decode cX9_dear 0 = .ok (.aload_n 0, 1) := by decide +kernel
theorem dX9_dear_1 : decode cX9_dear 1 = .ok (.iload_n 1, 1) := by decide +kernel
theorem dX9_dear_2 : decode cX9_dear 2 = .ok (.iload_n 2, 1) := by decide +kernel
theorem dX9_dear_3 : decode cX9_dear 3 = .ok (.invokevirtual 157, 3) := by decide +kernel
theorem dX9_dear_6 : decode cX9_dear 6 = .ok (.ifCond .ne 5, 3) := by decide +kernel
theorem dX9_dear_9 : decode cX9_dear 9 = .ok (.iconst (-1), 1) := by decide +kernel
theorem dX9_dear_10 : decode cX9_dear 10 = .ok (.ireturn, 1) := by decide +kernel
theorem dX9_dear_11 : decode cX9_dear 11 = .ok (.aload_n 0, 1) := by decide +kernel
theorem dX9_dear_12 : decode cX9_dear 12 = .ok (.getfield 50, 3) := by decide +kernel
theorem dX9_dear_15 : decode cX9_dear 15 = .ok (.getfield 71, 3) := by decide +kernel
theorem dX9_dear_18 : decode cX9_dear 18 = .ok (.iload_n 1, 1) := by decide +kernel
theorem dX9_dear_19 : decode cX9_dear 19 = .ok (.iload_n 2, 1) := by decide +kernel
theorem dX9_dear_20 : decode cX9_dear 20 = .ok (.invokevirtual 161, 3) := by decide +kernel
theorem dX9_dear_23 : decode cX9_dear 23 = .ok (.ireturn, 1) := by decide +kernel
def f_X9_dear (a0 : Nat) (i1 : Int32) (i2 : Int32) (σ : mm_S) : Option (Int32 × mm_S) :=
    bd (f_X9_areUnlike a0 i1 i2 σ) fun r10 σ9 =>
    if r10 = 0 then
      some ((-1 : Int32), σ9)
    else
      bd (f_X1_dearness (26 + 1) i1 i2 σ9) fun r14 σ13 =>
      some (r14, σ13)
theorem v_X9_dear {g : mm_G} (d : Nat) {a0 : Nat} {i1 : Int32} {i2 : Int32} {σ : mm_S} {res : Int32 × mm_S} (h_a0 : (mm_K a0).1 = 9) (h : f_X9_dear a0 i1 i2 σ = some res) : SM g (d + 2) yy_X9_dear [.ref a0, .int i1, .int i2] σ (.int res.1) res.2 := by
  refine s_of (by decide) (Nat.le_of_ble_eq_true rfl) (L := [(0, .ref a0), (1, .int i1), (2, .int i2)]) rfl ?_
  unfold f_X9_dear at h
  refine e_aload_n 0 dX9_dear_0 rfl rfl ?_
  refine e_iload_n 1 dX9_dear_1 rfl rfl ?_
  refine e_iload_n 2 dX9_dear_2 rfl rfl ?_
  obtain ⟨r10, σ9, q8, h⟩ := bd_some h
  refine s_callVi [.int i1, .int i2] dX9_dear_3 ml_RX9_157 h_a0 ⟨_, rfl, by decide⟩ rfl (v_X9_areUnlike (d + 0) h_a0 q8) (Nat.le_of_ble_eq_true rfl) ?_
  refine e_if_ne 11 dX9_dear_6 (by decide) (fun c11 => ?_) (fun c11 => ?_)
  · rw [if_neg c11] at h
    refine e_aload_n 0 dX9_dear_11 rfl rfl ?_
    refine s_getr dX9_dear_12 fl_RX9_50 h_a0 (r_9_5 h_a0).1 ?_
    refine s_getr dX9_dear_15 fl_RX9_71 (ka_1 (r_9_5 (w := 0) h_a0).2) (r_8_0 (ka_1 (r_9_5 (w := 0) h_a0).2)).1 ?_
    refine e_iload_n 1 dX9_dear_18 rfl rfl ?_
    refine e_iload_n 2 dX9_dear_19 rfl rfl ?_
    obtain ⟨r14, σ13, q12, h⟩ := bd_some h
    refine s_callVi [.int i1, .int i2] dX9_dear_20 ml_RX9_161 (ka_1 (r_8_0 (w := 0) (ka_1 (r_9_5 (w := 0) h_a0).2)).2) ⟨_, rfl, by decide⟩ rfl (v_X1_dearness (d + 1) (ka_1 (r_8_0 (w := 0) (ka_1 (r_9_5 (w := 0) h_a0).2)).2) q12) (Nat.le_of_ble_eq_true rfl) ?_
    obtain rfl := Option.some.inj h
    exact s_ret rfl ⟨_, rfl, rfl⟩ dX9_dear_23
  · rw [if_pos c11] at h
    refine e_iconst (v := (-1 : Int32)) dX9_dear_9 (by decide) ?_
    obtain rfl := Option.some.inj h
    exact s_ret rfl ⟨_, rfl, rfl⟩ dX9_dear_10
abbrev yy_X9_sum : mm_Y := (yX9_sum, cX9_sum, 3, (some .int))
theorem dX9_sum_0 : decode cX9_sum 0 = .ok (.iconst 0, 1) := by decide +kernel
theorem dX9_sum_1 : decode cX9_sum 1 = .ok (.istore_n 1, 1) := by decide +kernel
theorem dX9_sum_2 : decode cX9_sum 2 = .ok (.iconst 0, 1) := by decide +kernel
theorem dX9_sum_3 : decode cX9_sum 3 = .ok (.istore_n 2, 1) := by decide +kernel
theorem dX9_sum_4 : decode cX9_sum 4 = .ok (.iload_n 2, 1) := by decide +kernel
theorem dX9_sum_5 : decode cX9_sum 5 = .ok (.aload_n 0, 1) := by decide +kernel
theorem dX9_sum_6 : decode cX9_sum 6 = .ok (.arraylength, 1) := by decide +kernel
theorem dX9_sum_7 : decode cX9_sum 7 = .ok (.if_icmp .ge 15, 3) := by decide +kernel
theorem dX9_sum_10 : decode cX9_sum 10 = .ok (.iload_n 1, 1) := by decide +kernel
theorem dX9_sum_11 : decode cX9_sum 11 = .ok (.aload_n 0, 1) := by decide +kernel
theorem dX9_sum_12 : decode cX9_sum 12 = .ok (.iload_n 2, 1) := by decide +kernel
theorem dX9_sum_13 : decode cX9_sum 13 = .ok (.iaload, 1) := by decide +kernel
theorem dX9_sum_14 : decode cX9_sum 14 = .ok (.iadd, 1) := by decide +kernel
theorem dX9_sum_15 : decode cX9_sum 15 = .ok (.istore_n 1, 1) := by decide +kernel
theorem dX9_sum_16 : decode cX9_sum 16 = .ok (.iinc 2 1, 3) := by decide +kernel
theorem dX9_sum_19 : decode cX9_sum 19 = .ok (.goto (-15), 3) := by decide +kernel
theorem dX9_sum_22 : decode cX9_sum 22 = .ok (.iload_n 1, 1) := by decide +kernel
theorem dX9_sum_23 : decode cX9_sum 23 = .ok (.ireturn, 1) := by decide +kernel
def f_X9_sum_4 (a0 : Nat) (i1 : Int32) (i2 : Int32) (σ : mm_S) : Option (Int32 × mm_S) :=
  lp lpN (fun (k4 : (Int32 × Int32) → mm_S → Option (Int32 × mm_S)) (v : Int32 × Int32) (σ : mm_S) =>
    if (Int32.ofNat (mm_K a0).2) ≤ v.2 then
      some (v.1, σ)
    else
      gd v.2 (mm_K a0).2 <|
      lt ((v.1 + (σ.1 a0 v.2.toNatClampNeg))) fun x3 =>
      lt (v.2 + Int32.ofInt (1)) fun x5 =>
      k4 (x3, x5) σ) (i1, i2) σ
theorem v_X9_sum_4 {g : mm_G} (d : Nat) {a0 : Nat} {i1 : Int32} {i2 : Int32} {σ : mm_S} {res : Int32 × mm_S}  (h_a0 : (mm_K a0).1 = 12) (h : f_X9_sum_4 a0 i1 i2 σ = some res) : SV g (d + 0) yy_X9_sum 4 [(0, .ref a0), (1, .int i1), (2, .int i2)] [] σ (.int res.1) res.2 := by
  unfold f_X9_sum_4 at h
  refine lp_ind (P := fun v σ => SV g (d + 0) yy_X9_sum 4 [(0, .ref a0), (1, .int v.1), (2, .int v.2)] [] σ (.int res.1) res.2) (fun k4 H4 v σ h => ?_) _ (i1, i2) σ h
  refine e_iload_n 2 dX9_sum_4 rfl rfl ?_
  refine e_aload_n 0 dX9_sum_5 rfl rfl ?_
  refine s_alen dX9_sum_6 (ka_2 h_a0) ⟨by decide, by decide⟩ rfl ?_
  refine e_icmp_ge 22 dX9_sum_7 (by decide) (fun c1 => ?_) (fun c1 => ?_)
  · rw [if_pos c1] at h
    refine e_iload_n 1 dX9_sum_22 rfl rfl ?_
    obtain rfl := Option.some.inj h
    exact s_ret rfl ⟨_, rfl, rfl⟩ dX9_sum_23
  · rw [if_neg c1] at h
    refine e_iload_n 1 dX9_sum_10 rfl rfl ?_
    refine e_aload_n 0 dX9_sum_11 rfl rfl ?_
    refine e_iload_n 2 dX9_sum_12 rfl rfl ?_
    obtain ⟨q2, h⟩ := gd_some h
    refine s_iald dX9_sum_13 (ka_2 h_a0) q2 ?_
    refine e_iadd dX9_sum_14 ?_
    obtain ⟨x3, q4, h⟩ := lt_some h
    refine s_nmi q4 ?_
    refine e_istore_n (L' := [(0, .ref a0), (1, .int x3), (2, .int v.2)]) dX9_sum_15 rfl (by decide) rfl ?_
    obtain ⟨x5, q6, h⟩ := lt_some h
    refine e_iinc (v := x5) (L' := [(0, .ref a0), (1, .int x3), (2, .int x5)]) 2 dX9_sum_16 rfl q6.symm (by decide) rfl ?_
    refine e_goto 4 dX9_sum_19 (by decide) ?_
    refine s_pick (L' := [(0, .ref a0), (1, .int x3), (2, .int x5)]) [0, 1, 2] rfl ?_
    exact H4 (x3, x5) σ h
def f_X9_sum (a0 : Nat) (σ : mm_S) : Option (Int32 × mm_S) :=
    f_X9_sum_4 a0 (0 : Int32) (0 : Int32) σ
theorem v_X9_sum {g : mm_G} (d : Nat) {a0 : Nat} {σ : mm_S} {res : Int32 × mm_S} (h_a0 : (mm_K a0).1 = 12) (h : f_X9_sum a0 σ = some res) : SM g (d + 0) yy_X9_sum [.ref a0] σ (.int res.1) res.2 := by
  refine s_of (by decide) (Nat.le_of_ble_eq_true rfl) (L := [(0, .ref a0)]) rfl ?_
  unfold f_X9_sum at h
  refine e_iconst (v := (0 : Int32)) dX9_sum_0 (by decide) ?_
  refine e_istore_n (L' := [(0, .ref a0), (1, .int (0 : Int32))]) dX9_sum_1 rfl (by decide) rfl ?_
  refine e_iconst (v := (0 : Int32)) dX9_sum_2 (by decide) ?_
  refine e_istore_n (L' := [(0, .ref a0), (1, .int (0 : Int32)), (2, .int (0 : Int32))]) dX9_sum_3 rfl (by decide) rfl ?_
  refine s_pick (L' := [(0, .ref a0), (1, .int (0 : Int32)), (2, .int (0 : Int32))]) [0, 1, 2] rfl ?_
  exact v_X9_sum_4 d h_a0 h
abbrev yy_X9_count : mm_Y := (yX9_count, cX9_count, 2, (some .int))
theorem dX9_count_0 : decode cX9_count 0 = .ok (.iload_n 1, 1) := by decide +kernel
theorem dX9_count_1 : decode cX9_count 1 = .ok (.tableswitch 231 0 13 #[71, 82, 93, 104, 109, 117, 128, 139, 168, 182, 196, 207, 215, 223], 71) := by decide +kernel
theorem dX9_count_72 : decode cX9_count 72 = .ok (.aload_n 0, 1) := by decide +kernel
theorem dX9_count_73 : decode cX9_count 73 = .ok (.getfield 50, 3) := by decide +kernel
theorem dX9_count_76 : decode cX9_count 76 = .ok (.getfield 71, 3) := by decide +kernel
theorem dX9_count_79 : decode cX9_count 79 = .ok (.getfield 165, 3) := by decide +kernel
theorem dX9_count_82 : decode cX9_count 82 = .ok (.ireturn, 1) := by decide +kernel
theorem dX9_count_83 : decode cX9_count 83 = .ok (.aload_n 0, 1) := by decide +kernel
theorem dX9_count_84 : decode cX9_count 84 = .ok (.getfield 50, 3) := by decide +kernel
theorem dX9_count_87 : decode cX9_count 87 = .ok (.getfield 71, 3) := by decide +kernel
theorem dX9_count_90 : decode cX9_count 90 = .ok (.getfield 168, 3) := by decide +kernel
theorem dX9_count_93 : decode cX9_count 93 = .ok (.ireturn, 1) := by decide +kernel
theorem dX9_count_94 : decode cX9_count 94 = .ok (.aload_n 0, 1) := by decide +kernel
theorem dX9_count_95 : decode cX9_count 95 = .ok (.getfield 50, 3) := by decide +kernel
theorem dX9_count_98 : decode cX9_count 98 = .ok (.getfield 71, 3) := by decide +kernel
theorem dX9_count_101 : decode cX9_count 101 = .ok (.getfield 128, 3) := by decide +kernel
theorem dX9_count_104 : decode cX9_count 104 = .ok (.ireturn, 1) := by decide +kernel
theorem dX9_count_105 : decode cX9_count 105 = .ok (.aload_n 0, 1) := by decide +kernel
theorem dX9_count_106 : decode cX9_count 106 = .ok (.getfield 43, 3) := by decide +kernel
theorem dX9_count_109 : decode cX9_count 109 = .ok (.ireturn, 1) := by decide +kernel
theorem dX9_count_110 : decode cX9_count 110 = .ok (.aload_n 0, 1) := by decide +kernel
theorem dX9_count_111 : decode cX9_count 111 = .ok (.getfield 50, 3) := by decide +kernel
theorem dX9_count_114 : decode cX9_count 114 = .ok (.getfield 135, 3) := by decide +kernel
theorem dX9_count_117 : decode cX9_count 117 = .ok (.ireturn, 1) := by decide +kernel
theorem dX9_count_118 : decode cX9_count 118 = .ok (.aload_n 0, 1) := by decide +kernel
theorem dX9_count_119 : decode cX9_count 119 = .ok (.getfield 50, 3) := by decide +kernel
theorem dX9_count_122 : decode cX9_count 122 = .ok (.getfield 107, 3) := by decide +kernel
theorem dX9_count_125 : decode cX9_count 125 = .ok (.getfield 171, 3) := by decide +kernel
theorem dX9_count_128 : decode cX9_count 128 = .ok (.ireturn, 1) := by decide +kernel
theorem dX9_count_129 : decode cX9_count 129 = .ok (.aload_n 0, 1) := by decide +kernel
theorem dX9_count_130 : decode cX9_count 130 = .ok (.getfield 50, 3) := by decide +kernel
theorem dX9_count_133 : decode cX9_count 133 = .ok (.getfield 107, 3) := by decide +kernel
theorem dX9_count_136 : decode cX9_count 136 = .ok (.getfield 174, 3) := by decide +kernel
theorem dX9_count_139 : decode cX9_count 139 = .ok (.ireturn, 1) := by decide +kernel
theorem dX9_count_140 : decode cX9_count 140 = .ok (.aload_n 0, 1) := by decide +kernel
theorem dX9_count_141 : decode cX9_count 141 = .ok (.getfield 50, 3) := by decide +kernel
theorem dX9_count_144 : decode cX9_count 144 = .ok (.getfield 71, 3) := by decide +kernel
theorem dX9_count_147 : decode cX9_count 147 = .ok (.aload_n 0, 1) := by decide +kernel
theorem dX9_count_148 : decode cX9_count 148 = .ok (.getfield 50, 3) := by decide +kernel
theorem dX9_count_151 : decode cX9_count 151 = .ok (.getfield 107, 3) := by decide +kernel
theorem dX9_count_154 : decode cX9_count 154 = .ok (.getfield 171, 3) := by decide +kernel
theorem dX9_count_157 : decode cX9_count 157 = .ok (.invokevirtual 177, 3) := by decide +kernel
theorem dX9_count_160 : decode cX9_count 160 = .ok (.ifCond .eq 7, 3) := by decide +kernel
theorem dX9_count_163 : decode cX9_count 163 = .ok (.iconst 1, 1) := by decide +kernel
theorem dX9_count_164 : decode cX9_count 164 = .ok (.goto 4, 3) := by decide +kernel
theorem dX9_count_167 : decode cX9_count 167 = .ok (.iconst 0, 1) := by decide +kernel
theorem dX9_count_168 : decode cX9_count 168 = .ok (.ireturn, 1) := by decide +kernel
theorem dX9_count_169 : decode cX9_count 169 = .ok (.aload_n 0, 1) := by decide +kernel
theorem dX9_count_170 : decode cX9_count 170 = .ok (.getfield 50, 3) := by decide +kernel
theorem dX9_count_173 : decode cX9_count 173 = .ok (.getfield 107, 3) := by decide +kernel
theorem dX9_count_176 : decode cX9_count 176 = .ok (.getfield 142, 3) := by decide +kernel
theorem dX9_count_179 : decode cX9_count 179 = .ok (.invokestatic 180, 3) := by decide +kernel
theorem dX9_count_182 : decode cX9_count 182 = .ok (.ireturn, 1) := by decide +kernel
theorem dX9_count_183 : decode cX9_count 183 = .ok (.aload_n 0, 1) := by decide +kernel
theorem dX9_count_184 : decode cX9_count 184 = .ok (.getfield 50, 3) := by decide +kernel
theorem dX9_count_187 : decode cX9_count 187 = .ok (.getfield 107, 3) := by decide +kernel
theorem dX9_count_190 : decode cX9_count 190 = .ok (.getfield 154, 3) := by decide +kernel
theorem dX9_count_193 : decode cX9_count 193 = .ok (.invokestatic 180, 3) := by decide +kernel
theorem dX9_count_196 : decode cX9_count 196 = .ok (.ireturn, 1) := by decide +kernel
theorem dX9_count_197 : decode cX9_count 197 = .ok (.aload_n 0, 1) := by decide +kernel
theorem dX9_count_198 : decode cX9_count 198 = .ok (.getfield 50, 3) := by decide +kernel
theorem dX9_count_201 : decode cX9_count 201 = .ok (.getfield 116, 3) := by decide +kernel
theorem dX9_count_204 : decode cX9_count 204 = .ok (.getfield 120, 3) := by decide +kernel
theorem dX9_count_207 : decode cX9_count 207 = .ok (.ireturn, 1) := by decide +kernel
theorem dX9_count_208 : decode cX9_count 208 = .ok (.aload_n 0, 1) := by decide +kernel
theorem dX9_count_209 : decode cX9_count 209 = .ok (.getfield 65, 3) := by decide +kernel
theorem dX9_count_212 : decode cX9_count 212 = .ok (.getfield 184, 3) := by decide +kernel
theorem dX9_count_215 : decode cX9_count 215 = .ok (.ireturn, 1) := by decide +kernel
theorem dX9_count_216 : decode cX9_count 216 = .ok (.aload_n 0, 1) := by decide +kernel
theorem dX9_count_217 : decode cX9_count 217 = .ok (.getfield 50, 3) := by decide +kernel
theorem dX9_count_220 : decode cX9_count 220 = .ok (.getfield 185, 3) := by decide +kernel
theorem dX9_count_223 : decode cX9_count 223 = .ok (.ireturn, 1) := by decide +kernel
theorem dX9_count_224 : decode cX9_count 224 = .ok (.aload_n 0, 1) := by decide +kernel
theorem dX9_count_225 : decode cX9_count 225 = .ok (.getfield 12, 3) := by decide +kernel
theorem dX9_count_228 : decode cX9_count 228 = .ok (.getfield 91, 3) := by decide +kernel
theorem dX9_count_231 : decode cX9_count 231 = .ok (.ireturn, 1) := by decide +kernel
theorem dX9_count_232 : decode cX9_count 232 = .ok (.iconst (-1), 1) := by decide +kernel
theorem dX9_count_233 : decode cX9_count 233 = .ok (.ireturn, 1) := by decide +kernel
def f_X9_count (a0 : Nat) (i1 : Int32) (σ : mm_S) : Option (Int32 × mm_S) :=
    if i1 = 0 then
      some ((σ.1 (26 + 1) 1), σ)
    else
    if i1 = 1 then
      some ((σ.1 (26 + 1) 2), σ)
    else
    if i1 = 2 then
      some ((σ.1 (26 + 1) 3), σ)
    else
    if i1 = 3 then
      some ((σ.1 a0 4), σ)
    else
    if i1 = 4 then
      some ((σ.1 26 3), σ)
    else
    if i1 = 5 then
      some ((σ.1 (26 + 5) 0), σ)
    else
    if i1 = 6 then
      some ((σ.1 (26 + 5) 1), σ)
    else
    if i1 = 7 then
      bd (f_X1_countsAt (26 + 1) (σ.1 (26 + 5) 0) σ) fun r35 σ34 =>
      if r35 = 0 then
        some ((0 : Int32), σ34)
      else
        some ((1 : Int32), σ34)
    else
    if i1 = 8 then
      bd (f_X9_sum ((26 + 5) + 1) σ) fun r40 σ39 =>
      some (r40, σ39)
    else
    if i1 = 9 then
      bd (f_X9_sum ((26 + 5) + 4) σ) fun r44 σ43 =>
      some (r44, σ43)
    else
    if i1 = 10 then
      some ((σ.1 (26 + 10) 0), σ)
    else
    if i1 = 11 then
      some ((σ.1 98 2), σ)
    else
    if i1 = 12 then
      some ((σ.1 26 4), σ)
    else
    if i1 = 13 then
      some ((σ.1 1 1), σ)
    else
    some ((-1 : Int32), σ)
theorem v_X9_count {g : mm_G} (d : Nat) {a0 : Nat} {i1 : Int32} {σ : mm_S} {res : Int32 × mm_S} (h_a0 : (mm_K a0).1 = 9) (h : f_X9_count a0 i1 σ = some res) : SM g (d + 1) yy_X9_count [.ref a0, .int i1] σ (.int res.1) res.2 := by
  refine s_of (by decide) (Nat.le_of_ble_eq_true rfl) (L := [(0, .ref a0), (1, .int i1)]) rfl ?_
  unfold f_X9_count at h
  refine e_iload_n 1 dX9_count_0 rfl rfl ?_
  by_cases c25 : i1 = 0
  · rw [if_pos c25] at h
    refine s_eqi c25 ?_
    refine e_tabIn 72 dX9_count_1 (by decide) (by decide) rfl (by decide) ?_
    refine e_aload_n 0 dX9_count_72 rfl rfl ?_
    refine s_getr dX9_count_73 fl_RX9_50 h_a0 (r_9_5 h_a0).1 ?_
    refine s_getr dX9_count_76 fl_RX9_71 (ka_1 (r_9_5 (w := 0) h_a0).2) (r_8_0 (ka_1 (r_9_5 (w := 0) h_a0).2)).1 ?_
    refine s_geti dX9_count_79 fl_RX9_165 (ka_1 (r_8_0 (w := 0) (ka_1 (r_9_5 (w := 0) h_a0).2)).2) ?_
    obtain rfl := Option.some.inj h
    exact s_ret rfl ⟨_, rfl, rfl⟩ dX9_count_82
  rw [if_neg c25] at h
  by_cases c26 : i1 = 1
  · rw [if_pos c26] at h
    refine s_eqi c26 ?_
    refine e_tabIn 83 dX9_count_1 (by decide) (by decide) rfl (by decide) ?_
    refine e_aload_n 0 dX9_count_83 rfl rfl ?_
    refine s_getr dX9_count_84 fl_RX9_50 h_a0 (r_9_5 h_a0).1 ?_
    refine s_getr dX9_count_87 fl_RX9_71 (ka_1 (r_9_5 (w := 0) h_a0).2) (r_8_0 (ka_1 (r_9_5 (w := 0) h_a0).2)).1 ?_
    refine s_geti dX9_count_90 fl_RX9_168 (ka_1 (r_8_0 (w := 0) (ka_1 (r_9_5 (w := 0) h_a0).2)).2) ?_
    obtain rfl := Option.some.inj h
    exact s_ret rfl ⟨_, rfl, rfl⟩ dX9_count_93
  rw [if_neg c26] at h
  by_cases c27 : i1 = 2
  · rw [if_pos c27] at h
    refine s_eqi c27 ?_
    refine e_tabIn 94 dX9_count_1 (by decide) (by decide) rfl (by decide) ?_
    refine e_aload_n 0 dX9_count_94 rfl rfl ?_
    refine s_getr dX9_count_95 fl_RX9_50 h_a0 (r_9_5 h_a0).1 ?_
    refine s_getr dX9_count_98 fl_RX9_71 (ka_1 (r_9_5 (w := 0) h_a0).2) (r_8_0 (ka_1 (r_9_5 (w := 0) h_a0).2)).1 ?_
    refine s_geti dX9_count_101 fl_RX9_128 (ka_1 (r_8_0 (w := 0) (ka_1 (r_9_5 (w := 0) h_a0).2)).2) ?_
    obtain rfl := Option.some.inj h
    exact s_ret rfl ⟨_, rfl, rfl⟩ dX9_count_104
  rw [if_neg c27] at h
  by_cases c28 : i1 = 3
  · rw [if_pos c28] at h
    refine s_eqi c28 ?_
    refine e_tabIn 105 dX9_count_1 (by decide) (by decide) rfl (by decide) ?_
    refine e_aload_n 0 dX9_count_105 rfl rfl ?_
    refine s_geti dX9_count_106 fl_RX9_43 h_a0 ?_
    obtain rfl := Option.some.inj h
    exact s_ret rfl ⟨_, rfl, rfl⟩ dX9_count_109
  rw [if_neg c28] at h
  by_cases c29 : i1 = 4
  · rw [if_pos c29] at h
    refine s_eqi c29 ?_
    refine e_tabIn 110 dX9_count_1 (by decide) (by decide) rfl (by decide) ?_
    refine e_aload_n 0 dX9_count_110 rfl rfl ?_
    refine s_getr dX9_count_111 fl_RX9_50 h_a0 (r_9_5 h_a0).1 ?_
    refine s_geti dX9_count_114 fl_RX9_135 (ka_1 (r_9_5 (w := 0) h_a0).2) ?_
    obtain rfl := Option.some.inj h
    exact s_ret rfl ⟨_, rfl, rfl⟩ dX9_count_117
  rw [if_neg c29] at h
  by_cases c30 : i1 = 5
  · rw [if_pos c30] at h
    refine s_eqi c30 ?_
    refine e_tabIn 118 dX9_count_1 (by decide) (by decide) rfl (by decide) ?_
    refine e_aload_n 0 dX9_count_118 rfl rfl ?_
    refine s_getr dX9_count_119 fl_RX9_50 h_a0 (r_9_5 h_a0).1 ?_
    refine s_getr dX9_count_122 fl_RX9_107 (ka_1 (r_9_5 (w := 0) h_a0).2) (r_8_1 (ka_1 (r_9_5 (w := 0) h_a0).2)).1 ?_
    refine s_geti dX9_count_125 fl_RX9_171 (ka_1 (r_8_1 (w := 0) (ka_1 (r_9_5 (w := 0) h_a0).2)).2) ?_
    obtain rfl := Option.some.inj h
    exact s_ret rfl ⟨_, rfl, rfl⟩ dX9_count_128
  rw [if_neg c30] at h
  by_cases c31 : i1 = 6
  · rw [if_pos c31] at h
    refine s_eqi c31 ?_
    refine e_tabIn 129 dX9_count_1 (by decide) (by decide) rfl (by decide) ?_
    refine e_aload_n 0 dX9_count_129 rfl rfl ?_
    refine s_getr dX9_count_130 fl_RX9_50 h_a0 (r_9_5 h_a0).1 ?_
    refine s_getr dX9_count_133 fl_RX9_107 (ka_1 (r_9_5 (w := 0) h_a0).2) (r_8_1 (ka_1 (r_9_5 (w := 0) h_a0).2)).1 ?_
    refine s_geti dX9_count_136 fl_RX9_174 (ka_1 (r_8_1 (w := 0) (ka_1 (r_9_5 (w := 0) h_a0).2)).2) ?_
    obtain rfl := Option.some.inj h
    exact s_ret rfl ⟨_, rfl, rfl⟩ dX9_count_139
  rw [if_neg c31] at h
  by_cases c32 : i1 = 7
  · rw [if_pos c32] at h
    refine s_eqi c32 ?_
    refine e_tabIn 140 dX9_count_1 (by decide) (by decide) rfl (by decide) ?_
    refine e_aload_n 0 dX9_count_140 rfl rfl ?_
    refine s_getr dX9_count_141 fl_RX9_50 h_a0 (r_9_5 h_a0).1 ?_
    refine s_getr dX9_count_144 fl_RX9_71 (ka_1 (r_9_5 (w := 0) h_a0).2) (r_8_0 (ka_1 (r_9_5 (w := 0) h_a0).2)).1 ?_
    refine e_aload_n 0 dX9_count_147 rfl rfl ?_
    refine s_getr dX9_count_148 fl_RX9_50 h_a0 (r_9_5 h_a0).1 ?_
    refine s_getr dX9_count_151 fl_RX9_107 (ka_1 (r_9_5 (w := 0) h_a0).2) (r_8_1 (ka_1 (r_9_5 (w := 0) h_a0).2)).1 ?_
    refine s_geti dX9_count_154 fl_RX9_171 (ka_1 (r_8_1 (w := 0) (ka_1 (r_9_5 (w := 0) h_a0).2)).2) ?_
    obtain ⟨r35, σ34, q33, h⟩ := bd_some h
    refine s_callVi [.int (σ.1 (26 + 5) 0)] dX9_count_157 ml_RX9_177 (ka_1 (r_8_0 (w := 0) (ka_1 (r_9_5 (w := 0) h_a0).2)).2) ⟨_, rfl, by decide⟩ rfl (v_X1_countsAt (d + 0) (ka_1 (r_8_0 (w := 0) (ka_1 (r_9_5 (w := 0) h_a0).2)).2) q33) (Nat.le_of_ble_eq_true rfl) ?_
    refine e_if_eq 167 dX9_count_160 (by decide) (fun c36 => ?_) (fun c36 => ?_)
    · rw [if_pos c36] at h
      refine e_iconst (v := (0 : Int32)) dX9_count_167 (by decide) ?_
      obtain rfl := Option.some.inj h
      exact s_ret rfl ⟨_, rfl, rfl⟩ dX9_count_168
    · rw [if_neg c36] at h
      refine e_iconst (v := (1 : Int32)) dX9_count_163 (by decide) ?_
      refine e_goto 168 dX9_count_164 (by decide) ?_
      obtain rfl := Option.some.inj h
      exact s_ret rfl ⟨_, rfl, rfl⟩ dX9_count_168
  rw [if_neg c32] at h
  by_cases c37 : i1 = 8
  · rw [if_pos c37] at h
    refine s_eqi c37 ?_
    refine e_tabIn 169 dX9_count_1 (by decide) (by decide) rfl (by decide) ?_
    refine e_aload_n 0 dX9_count_169 rfl rfl ?_
    refine s_getr dX9_count_170 fl_RX9_50 h_a0 (r_9_5 h_a0).1 ?_
    refine s_getr dX9_count_173 fl_RX9_107 (ka_1 (r_9_5 (w := 0) h_a0).2) (r_8_1 (ka_1 (r_9_5 (w := 0) h_a0).2)).1 ?_
    refine s_getr dX9_count_176 fl_RX9_142 (ka_1 (r_8_1 (w := 0) (ka_1 (r_9_5 (w := 0) h_a0).2)).2) (r_2_2 (ka_1 (r_8_1 (w := 0) (ka_1 (r_9_5 (w := 0) h_a0).2)).2)).1 ?_
    obtain ⟨r40, σ39, q38, h⟩ := bd_some h
    refine s_callSi [.ref ((26 + 5) + 1)] dX9_count_179 ml_RX9_180 ⟨_, rfl, by decide⟩ rfl (v_X9_sum (d + 0) (ka_1 (r_2_2 (w := 0) (ka_1 (r_8_1 (w := 0) (ka_1 (r_9_5 (w := 0) h_a0).2)).2)).2) q38) (Nat.le_of_ble_eq_true rfl) ?_
    obtain rfl := Option.some.inj h
    exact s_ret rfl ⟨_, rfl, rfl⟩ dX9_count_182
  rw [if_neg c37] at h
  by_cases c41 : i1 = 9
  · rw [if_pos c41] at h
    refine s_eqi c41 ?_
    refine e_tabIn 183 dX9_count_1 (by decide) (by decide) rfl (by decide) ?_
    refine e_aload_n 0 dX9_count_183 rfl rfl ?_
    refine s_getr dX9_count_184 fl_RX9_50 h_a0 (r_9_5 h_a0).1 ?_
    refine s_getr dX9_count_187 fl_RX9_107 (ka_1 (r_9_5 (w := 0) h_a0).2) (r_8_1 (ka_1 (r_9_5 (w := 0) h_a0).2)).1 ?_
    refine s_getr dX9_count_190 fl_RX9_154 (ka_1 (r_8_1 (w := 0) (ka_1 (r_9_5 (w := 0) h_a0).2)).2) (r_2_5 (ka_1 (r_8_1 (w := 0) (ka_1 (r_9_5 (w := 0) h_a0).2)).2)).1 ?_
    obtain ⟨r44, σ43, q42, h⟩ := bd_some h
    refine s_callSi [.ref ((26 + 5) + 4)] dX9_count_193 ml_RX9_180 ⟨_, rfl, by decide⟩ rfl (v_X9_sum (d + 0) (ka_1 (r_2_5 (w := 0) (ka_1 (r_8_1 (w := 0) (ka_1 (r_9_5 (w := 0) h_a0).2)).2)).2) q42) (Nat.le_of_ble_eq_true rfl) ?_
    obtain rfl := Option.some.inj h
    exact s_ret rfl ⟨_, rfl, rfl⟩ dX9_count_196
  rw [if_neg c41] at h
  by_cases c45 : i1 = 10
  · rw [if_pos c45] at h
    refine s_eqi c45 ?_
    refine e_tabIn 197 dX9_count_1 (by decide) (by decide) rfl (by decide) ?_
    refine e_aload_n 0 dX9_count_197 rfl rfl ?_
    refine s_getr dX9_count_198 fl_RX9_50 h_a0 (r_9_5 h_a0).1 ?_
    refine s_getr dX9_count_201 fl_RX9_116 (ka_1 (r_9_5 (w := 0) h_a0).2) (r_8_2 (ka_1 (r_9_5 (w := 0) h_a0).2)).1 ?_
    refine s_geti dX9_count_204 fl_RX9_120 (ka_1 (r_8_2 (w := 0) (ka_1 (r_9_5 (w := 0) h_a0).2)).2) ?_
    obtain rfl := Option.some.inj h
    exact s_ret rfl ⟨_, rfl, rfl⟩ dX9_count_207
  rw [if_neg c45] at h
  by_cases c46 : i1 = 11
  · rw [if_pos c46] at h
    refine s_eqi c46 ?_
    refine e_tabIn 208 dX9_count_1 (by decide) (by decide) rfl (by decide) ?_
    refine e_aload_n 0 dX9_count_208 rfl rfl ?_
    refine s_getr dX9_count_209 fl_RX9_65 h_a0 (r_9_8 h_a0).1 ?_
    refine s_geti dX9_count_212 fl_RX9_184 (ka_1 (r_9_8 (w := 0) h_a0).2) ?_
    obtain rfl := Option.some.inj h
    exact s_ret rfl ⟨_, rfl, rfl⟩ dX9_count_215
  rw [if_neg c46] at h
  by_cases c47 : i1 = 12
  · rw [if_pos c47] at h
    refine s_eqi c47 ?_
    refine e_tabIn 216 dX9_count_1 (by decide) (by decide) rfl (by decide) ?_
    refine e_aload_n 0 dX9_count_216 rfl rfl ?_
    refine s_getr dX9_count_217 fl_RX9_50 h_a0 (r_9_5 h_a0).1 ?_
    refine s_geti dX9_count_220 fl_RX9_185 (ka_1 (r_9_5 (w := 0) h_a0).2) ?_
    obtain rfl := Option.some.inj h
    exact s_ret rfl ⟨_, rfl, rfl⟩ dX9_count_223
  rw [if_neg c47] at h
  by_cases c48 : i1 = 13
  · rw [if_pos c48] at h
    refine s_eqi c48 ?_
    refine e_tabIn 224 dX9_count_1 (by decide) (by decide) rfl (by decide) ?_
    refine e_aload_n 0 dX9_count_224 rfl rfl ?_
    refine s_getr dX9_count_225 fl_RX9_12 h_a0 (r_9_0 h_a0).1 ?_
    refine s_geti dX9_count_228 fl_RX9_91 (ka_1 (r_9_0 (w := 0) h_a0).2) ?_
    obtain rfl := Option.some.inj h
    exact s_ret rfl ⟨_, rfl, rfl⟩ dX9_count_231
  rw [if_neg c48] at h
  have c25' := lv_neT (a := 0) c25 rfl
  have c26' := lv_neT (a := 1) c26 rfl
  have c27' := lv_neT (a := 2) c27 rfl
  have c28' := lv_neT (a := 3) c28 rfl
  have c29' := lv_neT (a := 4) c29 rfl
  have c30' := lv_neT (a := 5) c30 rfl
  have c31' := lv_neT (a := 6) c31 rfl
  have c32' := lv_neT (a := 7) c32 rfl
  have c37' := lv_neT (a := 8) c37 rfl
  have c41' := lv_neT (a := 9) c41 rfl
  have c45' := lv_neT (a := 10) c45 rfl
  have c46' := lv_neT (a := 11) c46 rfl
  have c47' := lv_neT (a := 12) c47 rfl
  have c48' := lv_neT (a := 13) c48 rfl
  refine e_tabOut 232 dX9_count_1 (by omega) (by decide) ?_
  refine e_iconst (v := (-1 : Int32)) dX9_count_232 (by decide) ?_
  obtain rfl := Option.some.inj h
  exact s_ret rfl ⟨_, rfl, rfl⟩ dX9_count_233
abbrev yy_X9_walkFromNow : mm_Y := (yX9_walkFromNow, cX9_walkFromNow, 1, none)
theorem dX9_walkFromNow_0 : decode cX9_walkFromNow 0 = .ok (.aload_n 0, 1) := by decide +kernel
theorem dX9_walkFromNow_1 : decode cX9_walkFromNow 1 = .ok (.getfield 77, 3) := by decide +kernel
theorem dX9_walkFromNow_4 : decode cX9_walkFromNow 4 = .ok (.aload_n 0, 1) := by decide +kernel
theorem dX9_walkFromNow_5 : decode cX9_walkFromNow 5 = .ok (.getfield 34, 3) := by decide +kernel
theorem dX9_walkFromNow_8 : decode cX9_walkFromNow 8 = .ok (.aload_n 0, 1) := by decide +kernel
theorem dX9_walkFromNow_9 : decode cX9_walkFromNow 9 = .ok (.getfield 50, 3) := by decide +kernel
theorem dX9_walkFromNow_12 : decode cX9_walkFromNow 12 = .ok (.getfield 135, 3) := by decide +kernel
theorem dX9_walkFromNow_15 : decode cX9_walkFromNow 15 = .ok (.iconst 1, 1) := by decide +kernel
theorem dX9_walkFromNow_16 : decode cX9_walkFromNow 16 = .ok (.iadd, 1) := by decide +kernel
theorem dX9_walkFromNow_17 : decode cX9_walkFromNow 17 = .ok (.aaload, 1) := by decide +kernel
theorem dX9_walkFromNow_18 : decode cX9_walkFromNow 18 = .ok (.aload_n 0, 1) := by decide +kernel
theorem dX9_walkFromNow_19 : decode cX9_walkFromNow 19 = .ok (.getfield 50, 3) := by decide +kernel
theorem dX9_walkFromNow_22 : decode cX9_walkFromNow 22 = .ok (.getfield 107, 3) := by decide +kernel
theorem dX9_walkFromNow_25 : decode cX9_walkFromNow 25 = .ok (.invokevirtual 292, 3) := by decide +kernel
theorem dX9_walkFromNow_28 : decode cX9_walkFromNow 28 = .ok (.return_, 1) := by decide +kernel
def f_X9_walkFromNow (a0 : Nat) (σ : mm_S) : Option (mm_S) :=
    gd ((σ.1 26 3) + (1 : Int32)) 7 <|
    bv (f_X7_begin 200 (12 + 2 * ((σ.1 26 3) + (1 : Int32)).toNatClampNeg) (26 + 5) σ) fun σ6 =>
    some σ6
theorem v_X9_walkFromNow {g : mm_G} (d : Nat) {a0 : Nat} {σ : mm_S} {res : mm_S} (h_a0 : (mm_K a0).1 = 9) (h : f_X9_walkFromNow a0 σ = some res) : SM g (d + 3) yy_X9_walkFromNow [.ref a0] σ .null res := by
  refine s_of (by decide) (Nat.le_of_ble_eq_true rfl) (L := [(0, .ref a0)]) rfl ?_
  unfold f_X9_walkFromNow at h
  refine e_aload_n 0 dX9_walkFromNow_0 rfl rfl ?_
  refine s_getr dX9_walkFromNow_1 fl_RX9_77 h_a0 (r_9_9 h_a0).1 ?_
  refine e_aload_n 0 dX9_walkFromNow_4 rfl rfl ?_
  refine s_getr dX9_walkFromNow_5 fl_RX9_34 h_a0 (r_9_3 h_a0).1 ?_
  refine e_aload_n 0 dX9_walkFromNow_8 rfl rfl ?_
  refine s_getr dX9_walkFromNow_9 fl_RX9_50 h_a0 (r_9_5 h_a0).1 ?_
  refine s_geti dX9_walkFromNow_12 fl_RX9_135 (ka_1 (r_9_5 (w := 0) h_a0).2) ?_
  refine e_iconst (v := (1 : Int32)) dX9_walkFromNow_15 (by decide) ?_
  refine e_iadd dX9_walkFromNow_16 ?_
  obtain ⟨q4, h⟩ := gd_some h
  refine s_aald16 dX9_walkFromNow_17 (ka_1 (r_9_3 (w := 0) h_a0).2) q4 ?_
  refine e_aload_n 0 dX9_walkFromNow_18 rfl rfl ?_
  refine s_getr dX9_walkFromNow_19 fl_RX9_50 h_a0 (r_9_5 h_a0).1 ?_
  refine s_getr dX9_walkFromNow_22 fl_RX9_107 (ka_1 (r_9_5 (w := 0) h_a0).2) (r_8_1 (ka_1 (r_9_5 (w := 0) h_a0).2)).1 ?_
  obtain ⟨σ6, q5, h⟩ := bv_some h
  refine s_callVv [.ref (12 + 2 * ((σ.1 26 3) + (1 : Int32)).toNatClampNeg), .ref (26 + 5)] dX9_walkFromNow_25 ml_RX9_292 (ka_1 (r_9_9 (w := 0) h_a0).2) rfl rfl (v_X7_begin (d + 0) (ka_1 (r_9_9 (w := 0) h_a0).2) (r_a16 (w := 0) (ka_1 (r_9_3 (w := 0) h_a0).2) (vin_lt q4)).2.1 (ka_1 (r_8_1 (w := 0) (ka_1 (r_9_5 (w := 0) h_a0).2)).2) q5) (Nat.le_of_ble_eq_true rfl) ?_
  obtain rfl := Option.some.inj h
  exact s_ret rfl rfl dX9_walkFromNow_28
abbrev yy_X9_hour : mm_Y := (yX9_hour, cX9_hour, 1, (some .int))
theorem dX9_hour_0 : decode cX9_hour 0 = .ok (.aload_n 0, 1) := by decide +kernel
theorem dX9_hour_1 : decode cX9_hour 1 = .ok (.getfield 50, 3) := by decide +kernel
theorem dX9_hour_4 : decode cX9_hour 4 = .ok (.getfield 71, 3) := by decide +kernel
theorem dX9_hour_7 : decode cX9_hour 7 = .ok (.getfield 188, 3) := by decide +kernel
theorem dX9_hour_10 : decode cX9_hour 10 = .ok (.ifCond .eq 19, 3) := by decide +kernel
theorem dX9_hour_13 : decode cX9_hour 13 = .ok (.aload_n 0, 1) := by decide +kernel
theorem dX9_hour_14 : decode cX9_hour 14 = .ok (.getfield 50, 3) := by decide +kernel
theorem dX9_hour_17 : decode cX9_hour 17 = .ok (.getfield 107, 3) := by decide +kernel
theorem dX9_hour_20 : decode cX9_hour 20 = .ok (.getfield 171, 3) := by decide +kernel
theorem dX9_hour_23 : decode cX9_hour 23 = .ok (.sipush 999, 3) := by decide +kernel
theorem dX9_hour_26 : decode cX9_hour 26 = .ok (.if_icmp .lt 5, 3) := by decide +kernel
theorem dX9_hour_29 : decode cX9_hour 29 = .ok (.iconst (-1), 1) := by decide +kernel
theorem dX9_hour_30 : decode cX9_hour 30 = .ok (.ireturn, 1) := by decide +kernel
theorem dX9_hour_31 : decode cX9_hour 31 = .ok (.aload_n 0, 1) := by decide +kernel
theorem dX9_hour_32 : decode cX9_hour 32 = .ok (.getfield 65, 3) := by decide +kernel
theorem dX9_hour_35 : decode cX9_hour 35 = .ok (.aload_n 0, 1) := by decide +kernel
theorem dX9_hour_36 : decode cX9_hour 36 = .ok (.getfield 50, 3) := by decide +kernel
theorem dX9_hour_39 : decode cX9_hour 39 = .ok (.getfield 107, 3) := by decide +kernel
theorem dX9_hour_42 : decode cX9_hour 42 = .ok (.invokevirtual 192, 3) := by decide +kernel
theorem dX9_hour_45 : decode cX9_hour 45 = .ok (.aload_n 0, 1) := by decide +kernel
theorem dX9_hour_46 : decode cX9_hour 46 = .ok (.invokevirtual 196, 3) := by decide +kernel
theorem dX9_hour_49 : decode cX9_hour 49 = .ok (.aload_n 0, 1) := by decide +kernel
theorem dX9_hour_50 : decode cX9_hour 50 = .ok (.getfield 77, 3) := by decide +kernel
theorem dX9_hour_53 : decode cX9_hour 53 = .ok (.iconst 1, 1) := by decide +kernel
theorem dX9_hour_54 : decode cX9_hour 54 = .ok (.invokevirtual 199, 3) := by decide +kernel
theorem dX9_hour_57 : decode cX9_hour 57 = .ok (.aload_n 0, 1) := by decide +kernel
theorem dX9_hour_58 : decode cX9_hour 58 = .ok (.getfield 50, 3) := by decide +kernel
theorem dX9_hour_61 : decode cX9_hour 61 = .ok (.getfield 107, 3) := by decide +kernel
theorem dX9_hour_64 : decode cX9_hour 64 = .ok (.aload_n 0, 1) := by decide +kernel
theorem dX9_hour_65 : decode cX9_hour 65 = .ok (.getfield 77, 3) := by decide +kernel
theorem dX9_hour_68 : decode cX9_hour 68 = .ok (.getfield 202, 3) := by decide +kernel
theorem dX9_hour_71 : decode cX9_hour 71 = .ok (.invokevirtual 203, 3) := by decide +kernel
theorem dX9_hour_74 : decode cX9_hour 74 = .ok (.aload_n 0, 1) := by decide +kernel
theorem dX9_hour_75 : decode cX9_hour 75 = .ok (.getfield 50, 3) := by decide +kernel
theorem dX9_hour_78 : decode cX9_hour 78 = .ok (.getfield 107, 3) := by decide +kernel
theorem dX9_hour_81 : decode cX9_hour 81 = .ok (.getfield 174, 3) := by decide +kernel
theorem dX9_hour_84 : decode cX9_hour 84 = .ok (.ireturn, 1) := by decide +kernel
def f_X9_hour (a0 : Nat) (σ : mm_S) : Option (Int32 × mm_S) :=
    if (σ.1 (26 + 1) 0) = 0 then
      some ((-1 : Int32), σ)
    else
      if (σ.1 (26 + 5) 0) < (999 : Int32) then
        bv (f_X0_keep 98 (26 + 5) σ) fun σ14 =>
        bv (f_X9_walkFromNow a0 σ14) fun σ16 =>
        bv (f_X7_passHours 200 (1 : Int32) σ16) fun σ18 =>
        bv (f_X2_take (26 + 5) 201 σ18) fun σ20 =>
        some ((σ20.1 (26 + 5) 1), σ20)
      else
        some ((-1 : Int32), σ)
theorem v_X9_hour {g : mm_G} (d : Nat) {a0 : Nat} {σ : mm_S} {res : Int32 × mm_S} (h_a0 : (mm_K a0).1 = 9) (h : f_X9_hour a0 σ = some res) : SM g (d + 5) yy_X9_hour [.ref a0] σ (.int res.1) res.2 := by
  refine s_of (by decide) (Nat.le_of_ble_eq_true rfl) (L := [(0, .ref a0)]) rfl ?_
  unfold f_X9_hour at h
  refine e_aload_n 0 dX9_hour_0 rfl rfl ?_
  refine s_getr dX9_hour_1 fl_RX9_50 h_a0 (r_9_5 h_a0).1 ?_
  refine s_getr dX9_hour_4 fl_RX9_71 (ka_1 (r_9_5 (w := 0) h_a0).2) (r_8_0 (ka_1 (r_9_5 (w := 0) h_a0).2)).1 ?_
  refine s_geti dX9_hour_7 fl_RX9_188 (ka_1 (r_8_0 (w := 0) (ka_1 (r_9_5 (w := 0) h_a0).2)).2) ?_
  refine e_if_eq 29 dX9_hour_10 (by decide) (fun c11 => ?_) (fun c11 => ?_)
  · rw [if_pos c11] at h
    refine e_iconst (v := (-1 : Int32)) dX9_hour_29 (by decide) ?_
    obtain rfl := Option.some.inj h
    exact s_ret rfl ⟨_, rfl, rfl⟩ dX9_hour_30
  · rw [if_neg c11] at h
    refine e_aload_n 0 dX9_hour_13 rfl rfl ?_
    refine s_getr dX9_hour_14 fl_RX9_50 h_a0 (r_9_5 h_a0).1 ?_
    refine s_getr dX9_hour_17 fl_RX9_107 (ka_1 (r_9_5 (w := 0) h_a0).2) (r_8_1 (ka_1 (r_9_5 (w := 0) h_a0).2)).1 ?_
    refine s_geti dX9_hour_20 fl_RX9_171 (ka_1 (r_8_1 (w := 0) (ka_1 (r_9_5 (w := 0) h_a0).2)).2) ?_
    refine e_sipush (v := (999 : Int32)) dX9_hour_23 (by decide) ?_
    refine e_icmp_lt 31 dX9_hour_26 (by decide) (fun c12 => ?_) (fun c12 => ?_)
    · rw [if_pos c12] at h
      refine e_aload_n 0 dX9_hour_31 rfl rfl ?_
      refine s_getr dX9_hour_32 fl_RX9_65 h_a0 (r_9_8 h_a0).1 ?_
      refine e_aload_n 0 dX9_hour_35 rfl rfl ?_
      refine s_getr dX9_hour_36 fl_RX9_50 h_a0 (r_9_5 h_a0).1 ?_
      refine s_getr dX9_hour_39 fl_RX9_107 (ka_1 (r_9_5 (w := 0) h_a0).2) (r_8_1 (ka_1 (r_9_5 (w := 0) h_a0).2)).1 ?_
      obtain ⟨σ14, q13, h⟩ := bv_some h
      refine s_callVv [.ref (26 + 5)] dX9_hour_42 ml_RX9_192 (ka_1 (r_9_8 (w := 0) h_a0).2) rfl rfl (v_X0_keep (d + 2) (ka_1 (r_9_8 (w := 0) h_a0).2) (ka_1 (r_8_1 (w := 0) (ka_1 (r_9_5 (w := 0) h_a0).2)).2) q13) (Nat.le_of_ble_eq_true rfl) ?_
      refine e_aload_n 0 dX9_hour_45 rfl rfl ?_
      obtain ⟨σ16, q15, h⟩ := bv_some h
      refine s_callVv [] dX9_hour_46 ml_RX9_196 h_a0 rfl rfl (v_X9_walkFromNow (d + 1) h_a0 q15) (Nat.le_of_ble_eq_true rfl) ?_
      refine e_aload_n 0 dX9_hour_49 rfl rfl ?_
      refine s_getr dX9_hour_50 fl_RX9_77 h_a0 (r_9_9 h_a0).1 ?_
      refine e_iconst (v := (1 : Int32)) dX9_hour_53 (by decide) ?_
      obtain ⟨σ18, q17, h⟩ := bv_some h
      refine s_callVv [.int (1 : Int32)] dX9_hour_54 ml_RX9_199 (ka_1 (r_9_9 (w := 0) h_a0).2) rfl rfl (v_X7_passHours (d + 0) (ka_1 (r_9_9 (w := 0) h_a0).2) q17) (Nat.le_of_ble_eq_true rfl) ?_
      refine e_aload_n 0 dX9_hour_57 rfl rfl ?_
      refine s_getr dX9_hour_58 fl_RX9_50 h_a0 (r_9_5 h_a0).1 ?_
      refine s_getr dX9_hour_61 fl_RX9_107 (ka_1 (r_9_5 (w := 0) h_a0).2) (r_8_1 (ka_1 (r_9_5 (w := 0) h_a0).2)).1 ?_
      refine e_aload_n 0 dX9_hour_64 rfl rfl ?_
      refine s_getr dX9_hour_65 fl_RX9_77 h_a0 (r_9_9 h_a0).1 ?_
      refine s_getr dX9_hour_68 fl_RX9_202 (ka_1 (r_9_9 (w := 0) h_a0).2) (r_7_1 (ka_1 (r_9_9 (w := 0) h_a0).2)).1 ?_
      obtain ⟨σ20, q19, h⟩ := bv_some h
      refine s_callVv [.ref 201] dX9_hour_71 ml_RX9_203 (ka_1 (r_8_1 (w := 0) (ka_1 (r_9_5 (w := 0) h_a0).2)).2) rfl rfl (v_X2_take (d + 3) (ka_1 (r_8_1 (w := 0) (ka_1 (r_9_5 (w := 0) h_a0).2)).2) (ka_1 (r_7_1 (w := 0) (ka_1 (r_9_9 (w := 0) h_a0).2)).2) q19) (Nat.le_of_ble_eq_true rfl) ?_
      refine e_aload_n 0 dX9_hour_74 rfl rfl ?_
      refine s_getr dX9_hour_75 fl_RX9_50 h_a0 (r_9_5 h_a0).1 ?_
      refine s_getr dX9_hour_78 fl_RX9_107 (ka_1 (r_9_5 (w := 0) h_a0).2) (r_8_1 (ka_1 (r_9_5 (w := 0) h_a0).2)).1 ?_
      refine s_geti dX9_hour_81 fl_RX9_174 (ka_1 (r_8_1 (w := 0) (ka_1 (r_9_5 (w := 0) h_a0).2)).2) ?_
      obtain rfl := Option.some.inj h
      exact s_ret rfl ⟨_, rfl, rfl⟩ dX9_hour_84
    · rw [if_neg c12] at h
      refine e_iconst (v := (-1 : Int32)) dX9_hour_29 (by decide) ?_
      obtain rfl := Option.some.inj h
      exact s_ret rfl ⟨_, rfl, rfl⟩ dX9_hour_30
abbrev yy_X9_bid : mm_Y := (yX9_bid, cX9_bid, 4, (some .int))
theorem dX9_bid_0 : decode cX9_bid 0 = .ok (.aload_n 0, 1) := by decide +kernel
theorem dX9_bid_1 : decode cX9_bid 1 = .ok (.iload_n 1, 1) := by decide +kernel
theorem dX9_bid_2 : decode cX9_bid 2 = .ok (.invokevirtual 138, 3) := by decide +kernel
theorem dX9_bid_5 : decode cX9_bid 5 = .ok (.ifCond .eq 21, 3) := by decide +kernel
theorem dX9_bid_8 : decode cX9_bid 8 = .ok (.iload_n 2, 1) := by decide +kernel
theorem dX9_bid_9 : decode cX9_bid 9 = .ok (.iconst (-1), 1) := by decide +kernel
theorem dX9_bid_10 : decode cX9_bid 10 = .ok (.if_icmp .eq 11, 3) := by decide +kernel
theorem dX9_bid_13 : decode cX9_bid 13 = .ok (.aload_n 0, 1) := by decide +kernel
theorem dX9_bid_14 : decode cX9_bid 14 = .ok (.iload_n 2, 1) := by decide +kernel
theorem dX9_bid_15 : decode cX9_bid 15 = .ok (.invokevirtual 138, 3) := by decide +kernel
theorem dX9_bid_18 : decode cX9_bid 18 = .ok (.ifCond .eq 8, 3) := by decide +kernel
theorem dX9_bid_21 : decode cX9_bid 21 = .ok (.iload_n 2, 1) := by decide +kernel
theorem dX9_bid_22 : decode cX9_bid 22 = .ok (.iload_n 1, 1) := by decide +kernel
theorem dX9_bid_23 : decode cX9_bid 23 = .ok (.if_icmp .ne 6, 3) := by decide +kernel
theorem dX9_bid_26 : decode cX9_bid 26 = .ok (.bipush (-2), 2) := by decide +kernel
theorem dX9_bid_28 : decode cX9_bid 28 = .ok (.ireturn, 1) := by decide +kernel
theorem dX9_bid_29 : decode cX9_bid 29 = .ok (.aload_n 0, 1) := by decide +kernel
theorem dX9_bid_30 : decode cX9_bid 30 = .ok (.getfield 50, 3) := by decide +kernel
theorem dX9_bid_33 : decode cX9_bid 33 = .ok (.getfield 107, 3) := by decide +kernel
theorem dX9_bid_36 : decode cX9_bid 36 = .ok (.getfield 151, 3) := by decide +kernel
theorem dX9_bid_39 : decode cX9_bid 39 = .ok (.iload_n 1, 1) := by decide +kernel
theorem dX9_bid_40 : decode cX9_bid 40 = .ok (.iaload, 1) := by decide +kernel
theorem dX9_bid_41 : decode cX9_bid 41 = .ok (.istore_n 3, 1) := by decide +kernel
theorem dX9_bid_42 : decode cX9_bid 42 = .ok (.iload_n 2, 1) := by decide +kernel
theorem dX9_bid_43 : decode cX9_bid 43 = .ok (.iload_n 3, 1) := by decide +kernel
theorem dX9_bid_44 : decode cX9_bid 44 = .ok (.if_icmp .eq 17, 3) := by decide +kernel
theorem dX9_bid_47 : decode cX9_bid 47 = .ok (.aload_n 0, 1) := by decide +kernel
theorem dX9_bid_48 : decode cX9_bid 48 = .ok (.getfield 50, 3) := by decide +kernel
theorem dX9_bid_51 : decode cX9_bid 51 = .ok (.getfield 107, 3) := by decide +kernel
theorem dX9_bid_54 : decode cX9_bid 54 = .ok (.iload_n 1, 1) := by decide +kernel
theorem dX9_bid_55 : decode cX9_bid 55 = .ok (.invokevirtual 148, 3) := by decide +kernel
theorem dX9_bid_58 : decode cX9_bid 58 = .ok (.ifCond .eq 6, 3) := by decide +kernel
theorem dX9_bid_61 : decode cX9_bid 61 = .ok (.bipush (-2), 2) := by decide +kernel
theorem dX9_bid_63 : decode cX9_bid 63 = .ok (.ireturn, 1) := by decide +kernel
theorem dX9_bid_64 : decode cX9_bid 64 = .ok (.aload_n 0, 1) := by decide +kernel
theorem dX9_bid_65 : decode cX9_bid 65 = .ok (.getfield 65, 3) := by decide +kernel
theorem dX9_bid_68 : decode cX9_bid 68 = .ok (.aload_n 0, 1) := by decide +kernel
theorem dX9_bid_69 : decode cX9_bid 69 = .ok (.getfield 50, 3) := by decide +kernel
theorem dX9_bid_72 : decode cX9_bid 72 = .ok (.getfield 107, 3) := by decide +kernel
theorem dX9_bid_75 : decode cX9_bid 75 = .ok (.invokevirtual 192, 3) := by decide +kernel
theorem dX9_bid_78 : decode cX9_bid 78 = .ok (.aload_n 0, 1) := by decide +kernel
theorem dX9_bid_79 : decode cX9_bid 79 = .ok (.getfield 50, 3) := by decide +kernel
theorem dX9_bid_82 : decode cX9_bid 82 = .ok (.getfield 107, 3) := by decide +kernel
theorem dX9_bid_85 : decode cX9_bid 85 = .ok (.getfield 151, 3) := by decide +kernel
theorem dX9_bid_88 : decode cX9_bid 88 = .ok (.iload_n 1, 1) := by decide +kernel
theorem dX9_bid_89 : decode cX9_bid 89 = .ok (.iload_n 2, 1) := by decide +kernel
theorem dX9_bid_90 : decode cX9_bid 90 = .ok (.iastore, 1) := by decide +kernel
theorem dX9_bid_91 : decode cX9_bid 91 = .ok (.iload_n 3, 1) := by decide +kernel
theorem dX9_bid_92 : decode cX9_bid 92 = .ok (.ireturn, 1) := by decide +kernel
def f_X9_bid_21 (a0 : Nat) (i1 : Int32) (i2 : Int32) (σ : mm_S) : Option (Int32 × mm_S) :=
    if i2 = i1 then
      some ((-2 : Int32), σ)
    else
      gd i1 6 <|
      lt ((σ.1 ((26 + 5) + 3) i1.toNatClampNeg)) fun x3 =>
      if i2 = x3 then
        some ((-2 : Int32), σ)
      else
        bd (f_X2_isIn (26 + 5) i1 σ) fun r8 σ7 =>
        if r8 = 0 then
          bv (f_X0_keep 98 (26 + 5) σ7) fun σ11 =>
          gd i1 6 <|
          lt (su_i σ11 ((26 + 5) + 3) i1.toNatClampNeg i2) fun σ13 =>
          some (x3, σ13)
        else
          some ((-2 : Int32), σ7)
theorem v_X9_bid_21 {g : mm_G} (d : Nat) {a0 : Nat} {i1 : Int32} {i2 : Int32} {σ : mm_S} {res : Int32 × mm_S}  (h_a0 : (mm_K a0).1 = 9) (h : f_X9_bid_21 a0 i1 i2 σ = some res) : SV g (d + 3) yy_X9_bid 21 [(0, .ref a0), (1, .int i1), (2, .int i2)] [] σ (.int res.1) res.2 := by
  unfold f_X9_bid_21 at h
  refine e_iload_n 2 dX9_bid_21 rfl rfl ?_
  refine e_iload_n 1 dX9_bid_22 rfl rfl ?_
  refine e_icmp_ne 29 dX9_bid_23 (by decide) (fun c1 => ?_) (fun c1 => ?_)
  · rw [if_neg c1] at h
    refine e_aload_n 0 dX9_bid_29 rfl rfl ?_
    refine s_getr dX9_bid_30 fl_RX9_50 h_a0 (r_9_5 h_a0).1 ?_
    refine s_getr dX9_bid_33 fl_RX9_107 (ka_1 (r_9_5 (w := 0) h_a0).2) (r_8_1 (ka_1 (r_9_5 (w := 0) h_a0).2)).1 ?_
    refine s_getr dX9_bid_36 fl_RX9_151 (ka_1 (r_8_1 (w := 0) (ka_1 (r_9_5 (w := 0) h_a0).2)).2) (r_2_4 (ka_1 (r_8_1 (w := 0) (ka_1 (r_9_5 (w := 0) h_a0).2)).2)).1 ?_
    refine e_iload_n 1 dX9_bid_39 rfl rfl ?_
    obtain ⟨q2, h⟩ := gd_some h
    refine s_iald dX9_bid_40 (r_2_4 (w := 0) (ka_1 (r_8_1 (w := 0) (ka_1 (r_9_5 (w := 0) h_a0).2)).2)).2 q2 ?_
    obtain ⟨x3, q4, h⟩ := lt_some h
    refine s_nmi q4 ?_
    refine e_istore_n (L' := [(0, .ref a0), (1, .int i1), (2, .int i2), (3, .int x3)]) dX9_bid_41 rfl (by decide) rfl ?_
    refine e_iload_n 2 dX9_bid_42 rfl rfl ?_
    refine e_iload_n 3 dX9_bid_43 rfl rfl ?_
    refine e_icmp_eq 61 dX9_bid_44 (by decide) (fun c5 => ?_) (fun c5 => ?_)
    · rw [if_pos c5] at h
      refine e_bipush (v := (-2 : Int32)) dX9_bid_61 (by decide) ?_
      obtain rfl := Option.some.inj h
      exact s_ret rfl ⟨_, rfl, rfl⟩ dX9_bid_63
    · rw [if_neg c5] at h
      refine e_aload_n 0 dX9_bid_47 rfl rfl ?_
      refine s_getr dX9_bid_48 fl_RX9_50 h_a0 (r_9_5 h_a0).1 ?_
      refine s_getr dX9_bid_51 fl_RX9_107 (ka_1 (r_9_5 (w := 0) h_a0).2) (r_8_1 (ka_1 (r_9_5 (w := 0) h_a0).2)).1 ?_
      refine e_iload_n 1 dX9_bid_54 rfl rfl ?_
      obtain ⟨r8, σ7, q6, h⟩ := bd_some h
      refine s_callVi [.int i1] dX9_bid_55 ml_RX9_148 (ka_1 (r_8_1 (w := 0) (ka_1 (r_9_5 (w := 0) h_a0).2)).2) ⟨_, rfl, by decide⟩ rfl (v_X2_isIn (d + 2) (ka_1 (r_8_1 (w := 0) (ka_1 (r_9_5 (w := 0) h_a0).2)).2) q6) (Nat.le_of_ble_eq_true rfl) ?_
      refine e_if_eq 64 dX9_bid_58 (by decide) (fun c9 => ?_) (fun c9 => ?_)
      · rw [if_pos c9] at h
        refine e_aload_n 0 dX9_bid_64 rfl rfl ?_
        refine s_getr dX9_bid_65 fl_RX9_65 h_a0 (r_9_8 h_a0).1 ?_
        refine e_aload_n 0 dX9_bid_68 rfl rfl ?_
        refine s_getr dX9_bid_69 fl_RX9_50 h_a0 (r_9_5 h_a0).1 ?_
        refine s_getr dX9_bid_72 fl_RX9_107 (ka_1 (r_9_5 (w := 0) h_a0).2) (r_8_1 (ka_1 (r_9_5 (w := 0) h_a0).2)).1 ?_
        obtain ⟨σ11, q10, h⟩ := bv_some h
        refine s_callVv [.ref (26 + 5)] dX9_bid_75 ml_RX9_192 (ka_1 (r_9_8 (w := 0) h_a0).2) rfl rfl (v_X0_keep (d + 0) (ka_1 (r_9_8 (w := 0) h_a0).2) (ka_1 (r_8_1 (w := 0) (ka_1 (r_9_5 (w := 0) h_a0).2)).2) q10) (Nat.le_of_ble_eq_true rfl) ?_
        refine e_aload_n 0 dX9_bid_78 rfl rfl ?_
        refine s_getr dX9_bid_79 fl_RX9_50 h_a0 (r_9_5 h_a0).1 ?_
        refine s_getr dX9_bid_82 fl_RX9_107 (ka_1 (r_9_5 (w := 0) h_a0).2) (r_8_1 (ka_1 (r_9_5 (w := 0) h_a0).2)).1 ?_
        refine s_getr dX9_bid_85 fl_RX9_151 (ka_1 (r_8_1 (w := 0) (ka_1 (r_9_5 (w := 0) h_a0).2)).2) (r_2_4 (ka_1 (r_8_1 (w := 0) (ka_1 (r_9_5 (w := 0) h_a0).2)).2)).1 ?_
        refine e_iload_n 1 dX9_bid_88 rfl rfl ?_
        refine e_iload_n 2 dX9_bid_89 rfl rfl ?_
        obtain ⟨q12, h⟩ := gd_some h
        refine s_iast dX9_bid_90 (r_2_4 (w := 0) (ka_1 (r_8_1 (w := 0) (ka_1 (r_9_5 (w := 0) h_a0).2)).2)).2 q12 ?_
        obtain ⟨σ13, q14, h⟩ := lt_some h
        refine s_nms q14 ?_
        refine e_iload_n 3 dX9_bid_91 rfl rfl ?_
        obtain rfl := Option.some.inj h
        exact s_ret rfl ⟨_, rfl, rfl⟩ dX9_bid_92
      · rw [if_neg c9] at h
        refine e_bipush (v := (-2 : Int32)) dX9_bid_61 (by decide) ?_
        obtain rfl := Option.some.inj h
        exact s_ret rfl ⟨_, rfl, rfl⟩ dX9_bid_63
  · rw [if_pos c1] at h
    refine e_bipush (v := (-2 : Int32)) dX9_bid_26 (by decide) ?_
    obtain rfl := Option.some.inj h
    exact s_ret rfl ⟨_, rfl, rfl⟩ dX9_bid_28
def f_X9_bid (a0 : Nat) (i1 : Int32) (i2 : Int32) (σ : mm_S) : Option (Int32 × mm_S) :=
    bd (f_X9_isLodger a0 i1 σ) fun r26 σ25 =>
    if r26 = 0 then
      some ((-2 : Int32), σ25)
    else
      if i2 = (-1 : Int32) then
        f_X9_bid_21 a0 i1 i2 σ25
      else
        bd (f_X9_isLodger a0 i2 σ25) fun r31 σ30 =>
        if r31 = 0 then
          some ((-2 : Int32), σ30)
        else
          f_X9_bid_21 a0 i1 i2 σ30
theorem v_X9_bid {g : mm_G} (d : Nat) {a0 : Nat} {i1 : Int32} {i2 : Int32} {σ : mm_S} {res : Int32 × mm_S} (h_a0 : (mm_K a0).1 = 9) (h : f_X9_bid a0 i1 i2 σ = some res) : SM g (d + 3) yy_X9_bid [.ref a0, .int i1, .int i2] σ (.int res.1) res.2 := by
  refine s_of (by decide) (Nat.le_of_ble_eq_true rfl) (L := [(0, .ref a0), (1, .int i1), (2, .int i2)]) rfl ?_
  unfold f_X9_bid at h
  refine e_aload_n 0 dX9_bid_0 rfl rfl ?_
  refine e_iload_n 1 dX9_bid_1 rfl rfl ?_
  obtain ⟨r26, σ25, q24, h⟩ := bd_some h
  refine s_callVi [.int i1] dX9_bid_2 ml_RX9_138 h_a0 ⟨_, rfl, by decide⟩ rfl (v_X9_isLodger (d + 2) h_a0 q24) (Nat.le_of_ble_eq_true rfl) ?_
  refine e_if_eq 26 dX9_bid_5 (by decide) (fun c27 => ?_) (fun c27 => ?_)
  · rw [if_pos c27] at h
    refine e_bipush (v := (-2 : Int32)) dX9_bid_26 (by decide) ?_
    obtain rfl := Option.some.inj h
    exact s_ret rfl ⟨_, rfl, rfl⟩ dX9_bid_28
  · rw [if_neg c27] at h
    refine e_iload_n 2 dX9_bid_8 rfl rfl ?_
    refine e_iconst (v := (-1 : Int32)) dX9_bid_9 (by decide) ?_
    refine e_icmp_eq 21 dX9_bid_10 (by decide) (fun c28 => ?_) (fun c28 => ?_)
    · rw [if_pos c28] at h
      refine s_pick (L' := [(0, .ref a0), (1, .int i1), (2, .int i2)]) [0, 1, 2] rfl ?_
      exact v_X9_bid_21 d h_a0 h
    · rw [if_neg c28] at h
      refine e_aload_n 0 dX9_bid_13 rfl rfl ?_
      refine e_iload_n 2 dX9_bid_14 rfl rfl ?_
      obtain ⟨r31, σ30, q29, h⟩ := bd_some h
      refine s_callVi [.int i2] dX9_bid_15 ml_RX9_138 h_a0 ⟨_, rfl, by decide⟩ rfl (v_X9_isLodger (d + 2) h_a0 q29) (Nat.le_of_ble_eq_true rfl) ?_
      refine e_if_eq 26 dX9_bid_18 (by decide) (fun c32 => ?_) (fun c32 => ?_)
      · rw [if_pos c32] at h
        refine e_bipush (v := (-2 : Int32)) dX9_bid_26 (by decide) ?_
        obtain rfl := Option.some.inj h
        exact s_ret rfl ⟨_, rfl, rfl⟩ dX9_bid_28
      · rw [if_neg c32] at h
        refine s_pick (L' := [(0, .ref a0), (1, .int i1), (2, .int i2)]) [0, 1, 2] rfl ?_
        exact v_X9_bid_21 d h_a0 h
