abbrev yy_X7_bestOther : mm_Y := (yX7_bestOther, cX7_bestOther, 9, (some .int))
theorem dX7_bestOther_0 : decode cX7_bestOther 0 = .ok (.aload_n 0, 1) := by decide +kernel
theorem dX7_bestOther_1 : decode cX7_bestOther 1 = .ok (.getfield 28, 3) := by decide +kernel
theorem dX7_bestOther_4 : decode cX7_bestOther 4 = .ok (.iconst 0, 1) := by decide +kernel
theorem dX7_bestOther_5 : decode cX7_bestOther 5 = .ok (.iload_n 1, 1) := by decide +kernel
theorem dX7_bestOther_6 : decode cX7_bestOther 6 = .ok (.i2l, 1) := by decide +kernel
theorem dX7_bestOther_7 : decode cX7_bestOther 7 = .ok (.lastore, 1) := by decide +kernel
theorem dX7_bestOther_8 : decode cX7_bestOther 8 = .ok (.aload_n 0, 1) := by decide +kernel
theorem dX7_bestOther_9 : decode cX7_bestOther 9 = .ok (.getfield 28, 3) := by decide +kernel
theorem dX7_bestOther_12 : decode cX7_bestOther 12 = .ok (.iconst 2, 1) := by decide +kernel
theorem dX7_bestOther_13 : decode cX7_bestOther 13 = .ok (.aload_n 0, 1) := by decide +kernel
theorem dX7_bestOther_14 : decode cX7_bestOther 14 = .ok (.getfield 12, 3) := by decide +kernel
theorem dX7_bestOther_17 : decode cX7_bestOther 17 = .ok (.getfield 130, 3) := by decide +kernel
theorem dX7_bestOther_20 : decode cX7_bestOther 20 = .ok (.iload_n 1, 1) := by decide +kernel
theorem dX7_bestOther_21 : decode cX7_bestOther 21 = .ok (.iaload, 1) := by decide +kernel
theorem dX7_bestOther_22 : decode cX7_bestOther 22 = .ok (.i2l, 1) := by decide +kernel
theorem dX7_bestOther_23 : decode cX7_bestOther 23 = .ok (.lastore, 1) := by decide +kernel
theorem dX7_bestOther_24 : decode cX7_bestOther 24 = .ok (.aload_n 0, 1) := by decide +kernel
theorem dX7_bestOther_25 : decode cX7_bestOther 25 = .ok (.getfield 28, 3) := by decide +kernel
theorem dX7_bestOther_28 : decode cX7_bestOther 28 = .ok (.iconst 4, 1) := by decide +kernel
theorem dX7_bestOther_29 : decode cX7_bestOther 29 = .ok (.aload_n 0, 1) := by decide +kernel
theorem dX7_bestOther_30 : decode cX7_bestOther 30 = .ok (.getfield 12, 3) := by decide +kernel
theorem dX7_bestOther_33 : decode cX7_bestOther 33 = .ok (.getfield 133, 3) := by decide +kernel
theorem dX7_bestOther_36 : decode cX7_bestOther 36 = .ok (.iload_n 1, 1) := by decide +kernel
theorem dX7_bestOther_37 : decode cX7_bestOther 37 = .ok (.iaload, 1) := by decide +kernel
theorem dX7_bestOther_38 : decode cX7_bestOther 38 = .ok (.i2l, 1) := by decide +kernel
theorem dX7_bestOther_39 : decode cX7_bestOther 39 = .ok (.lastore, 1) := by decide +kernel
theorem dX7_bestOther_40 : decode cX7_bestOther 40 = .ok (.aload_n 0, 1) := by decide +kernel
theorem dX7_bestOther_41 : decode cX7_bestOther 41 = .ok (.getfield 28, 3) := by decide +kernel
theorem dX7_bestOther_44 : decode cX7_bestOther 44 = .ok (.bipush 9, 2) := by decide +kernel
theorem dX7_bestOther_46 : decode cX7_bestOther 46 = .ok (.aload_n 0, 1) := by decide +kernel
theorem dX7_bestOther_47 : decode cX7_bestOther 47 = .ok (.getfield 12, 3) := by decide +kernel
theorem dX7_bestOther_50 : decode cX7_bestOther 50 = .ok (.getfield 111, 3) := by decide +kernel
theorem dX7_bestOther_53 : decode cX7_bestOther 53 = .ok (.invokestatic 136, 3) := by decide +kernel
theorem dX7_bestOther_56 : decode cX7_bestOther 56 = .ok (.i2l, 1) := by decide +kernel
theorem dX7_bestOther_57 : decode cX7_bestOther 57 = .ok (.lastore, 1) := by decide +kernel
theorem dX7_bestOther_58 : decode cX7_bestOther 58 = .ok (.aload_n 0, 1) := by decide +kernel
theorem dX7_bestOther_59 : decode cX7_bestOther 59 = .ok (.getfield 28, 3) := by decide +kernel
theorem dX7_bestOther_62 : decode cX7_bestOther 62 = .ok (.bipush 10, 2) := by decide +kernel
theorem dX7_bestOther_64 : decode cX7_bestOther 64 = .ok (.iload_n 2, 1) := by decide +kernel
theorem dX7_bestOther_65 : decode cX7_bestOther 65 = .ok (.i2l, 1) := by decide +kernel
theorem dX7_bestOther_66 : decode cX7_bestOther 66 = .ok (.lastore, 1) := by decide +kernel
theorem dX7_bestOther_67 : decode cX7_bestOther 67 = .ok (.aload_n 0, 1) := by decide +kernel
theorem dX7_bestOther_68 : decode cX7_bestOther 68 = .ok (.getfield 28, 3) := by decide +kernel
theorem dX7_bestOther_71 : decode cX7_bestOther 71 = .ok (.bipush 11, 2) := by decide +kernel
theorem dX7_bestOther_73 : decode cX7_bestOther 73 = .ok (.aload_n 0, 1) := by decide +kernel
theorem dX7_bestOther_74 : decode cX7_bestOther 74 = .ok (.getfield 12, 3) := by decide +kernel
theorem dX7_bestOther_77 : decode cX7_bestOther 77 = .ok (.getfield 85, 3) := by decide +kernel
theorem dX7_bestOther_80 : decode cX7_bestOther 80 = .ok (.bipush 12, 2) := by decide +kernel
theorem dX7_bestOther_82 : decode cX7_bestOther 82 = .ok (.irem, 1) := by decide +kernel
theorem dX7_bestOther_83 : decode cX7_bestOther 83 = .ok (.i2l, 1) := by decide +kernel
theorem dX7_bestOther_84 : decode cX7_bestOther 84 = .ok (.lastore, 1) := by decide +kernel
theorem dX7_bestOther_85 : decode cX7_bestOther 85 = .ok (.aload_n 0, 1) := by decide +kernel
theorem dX7_bestOther_86 : decode cX7_bestOther 86 = .ok (.getfield 28, 3) := by decide +kernel
theorem dX7_bestOther_89 : decode cX7_bestOther 89 = .ok (.bipush 12, 2) := by decide +kernel
theorem dX7_bestOther_91 : decode cX7_bestOther 91 = .ok (.aload_n 0, 1) := by decide +kernel
theorem dX7_bestOther_92 : decode cX7_bestOther 92 = .ok (.getfield 12, 3) := by decide +kernel
theorem dX7_bestOther_95 : decode cX7_bestOther 95 = .ok (.getfield 85, 3) := by decide +kernel
theorem dX7_bestOther_98 : decode cX7_bestOther 98 = .ok (.i2l, 1) := by decide +kernel
theorem dX7_bestOther_99 : decode cX7_bestOther 99 = .ok (.lastore, 1) := by decide +kernel
theorem dX7_bestOther_100 : decode cX7_bestOther 100 = .ok (.iconst (-1), 1) := by decide +kernel
theorem dX7_bestOther_101 : decode cX7_bestOther 101 = .ok (.istore_n 3, 1) := by decide +kernel
theorem dX7_bestOther_102 : decode cX7_bestOther 102 = .ok (.lconst 0, 1) := by decide +kernel
theorem dX7_bestOther_103 : decode cX7_bestOther 103 = .ok (.lstore 4, 2) := by decide +kernel
theorem dX7_bestOther_105 : decode cX7_bestOther 105 = .ok (.iconst 0, 1) := by decide +kernel
theorem dX7_bestOther_106 : decode cX7_bestOther 106 = .ok (.istore 6, 2) := by decide +kernel
theorem dX7_bestOther_108 : decode cX7_bestOther 108 = .ok (.iload 6, 2) := by decide +kernel
theorem dX7_bestOther_110 : decode cX7_bestOther 110 = .ok (.aload_n 0, 1) := by decide +kernel
theorem dX7_bestOther_111 : decode cX7_bestOther 111 = .ok (.getfield 35, 3) := by decide +kernel
theorem dX7_bestOther_114 : decode cX7_bestOther 114 = .ok (.getfield 92, 3) := by decide +kernel
theorem dX7_bestOther_117 : decode cX7_bestOther 117 = .ok (.if_icmp .ge 135, 3) := by decide +kernel
theorem dX7_bestOther_120 : decode cX7_bestOther 120 = .ok (.iload 6, 2) := by decide +kernel
theorem dX7_bestOther_122 : decode cX7_bestOther 122 = .ok (.iload_n 1, 1) := by decide +kernel
theorem dX7_bestOther_123 : decode cX7_bestOther 123 = .ok (.if_icmp .eq 123, 3) := by decide +kernel
theorem dX7_bestOther_126 : decode cX7_bestOther 126 = .ok (.aload_n 0, 1) := by decide +kernel
theorem dX7_bestOther_127 : decode cX7_bestOther 127 = .ok (.getfield 28, 3) := by decide +kernel
theorem dX7_bestOther_130 : decode cX7_bestOther 130 = .ok (.iconst 1, 1) := by decide +kernel
theorem dX7_bestOther_131 : decode cX7_bestOther 131 = .ok (.iload 6, 2) := by decide +kernel
theorem dX7_bestOther_133 : decode cX7_bestOther 133 = .ok (.i2l, 1) := by decide +kernel
theorem dX7_bestOther_134 : decode cX7_bestOther 134 = .ok (.lastore, 1) := by decide +kernel
theorem dX7_bestOther_135 : decode cX7_bestOther 135 = .ok (.aload_n 0, 1) := by decide +kernel
theorem dX7_bestOther_136 : decode cX7_bestOther 136 = .ok (.getfield 28, 3) := by decide +kernel
theorem dX7_bestOther_139 : decode cX7_bestOther 139 = .ok (.iconst 3, 1) := by decide +kernel
theorem dX7_bestOther_140 : decode cX7_bestOther 140 = .ok (.aload_n 0, 1) := by decide +kernel
theorem dX7_bestOther_141 : decode cX7_bestOther 141 = .ok (.getfield 12, 3) := by decide +kernel
theorem dX7_bestOther_144 : decode cX7_bestOther 144 = .ok (.getfield 130, 3) := by decide +kernel
theorem dX7_bestOther_147 : decode cX7_bestOther 147 = .ok (.iload 6, 2) := by decide +kernel
theorem dX7_bestOther_149 : decode cX7_bestOther 149 = .ok (.iaload, 1) := by decide +kernel
theorem dX7_bestOther_150 : decode cX7_bestOther 150 = .ok (.i2l, 1) := by decide +kernel
theorem dX7_bestOther_151 : decode cX7_bestOther 151 = .ok (.lastore, 1) := by decide +kernel
theorem dX7_bestOther_152 : decode cX7_bestOther 152 = .ok (.aload_n 0, 1) := by decide +kernel
theorem dX7_bestOther_153 : decode cX7_bestOther 153 = .ok (.getfield 28, 3) := by decide +kernel
theorem dX7_bestOther_156 : decode cX7_bestOther 156 = .ok (.iconst 5, 1) := by decide +kernel
theorem dX7_bestOther_157 : decode cX7_bestOther 157 = .ok (.aload_n 0, 1) := by decide +kernel
theorem dX7_bestOther_158 : decode cX7_bestOther 158 = .ok (.getfield 12, 3) := by decide +kernel
theorem dX7_bestOther_161 : decode cX7_bestOther 161 = .ok (.getfield 133, 3) := by decide +kernel
theorem dX7_bestOther_164 : decode cX7_bestOther 164 = .ok (.iload 6, 2) := by decide +kernel
theorem dX7_bestOther_166 : decode cX7_bestOther 166 = .ok (.iaload, 1) := by decide +kernel
theorem dX7_bestOther_167 : decode cX7_bestOther 167 = .ok (.i2l, 1) := by decide +kernel
theorem dX7_bestOther_168 : decode cX7_bestOther 168 = .ok (.lastore, 1) := by decide +kernel
theorem dX7_bestOther_169 : decode cX7_bestOther 169 = .ok (.aload_n 0, 1) := by decide +kernel
theorem dX7_bestOther_170 : decode cX7_bestOther 170 = .ok (.getfield 28, 3) := by decide +kernel
theorem dX7_bestOther_173 : decode cX7_bestOther 173 = .ok (.bipush 6, 2) := by decide +kernel
theorem dX7_bestOther_175 : decode cX7_bestOther 175 = .ok (.aload_n 0, 1) := by decide +kernel
theorem dX7_bestOther_176 : decode cX7_bestOther 176 = .ok (.getfield 35, 3) := by decide +kernel
theorem dX7_bestOther_179 : decode cX7_bestOther 179 = .ok (.iload_n 1, 1) := by decide +kernel
theorem dX7_bestOther_180 : decode cX7_bestOther 180 = .ok (.iload 6, 2) := by decide +kernel
theorem dX7_bestOther_182 : decode cX7_bestOther 182 = .ok (.invokevirtual 142, 3) := by decide +kernel
theorem dX7_bestOther_185 : decode cX7_bestOther 185 = .ok (.i2l, 1) := by decide +kernel
theorem dX7_bestOther_186 : decode cX7_bestOther 186 = .ok (.lastore, 1) := by decide +kernel
theorem dX7_bestOther_187 : decode cX7_bestOther 187 = .ok (.aload_n 0, 1) := by decide +kernel
theorem dX7_bestOther_188 : decode cX7_bestOther 188 = .ok (.getfield 28, 3) := by decide +kernel
theorem dX7_bestOther_191 : decode cX7_bestOther 191 = .ok (.bipush 7, 2) := by decide +kernel
theorem dX7_bestOther_193 : decode cX7_bestOther 193 = .ok (.aload_n 0, 1) := by decide +kernel
theorem dX7_bestOther_194 : decode cX7_bestOther 194 = .ok (.getfield 22, 3) := by decide +kernel
theorem dX7_bestOther_197 : decode cX7_bestOther 197 = .ok (.iload 6, 2) := by decide +kernel
theorem dX7_bestOther_199 : decode cX7_bestOther 199 = .ok (.iaload, 1) := by decide +kernel
theorem dX7_bestOther_200 : decode cX7_bestOther 200 = .ok (.iload_n 1, 1) := by decide +kernel
theorem dX7_bestOther_201 : decode cX7_bestOther 201 = .ok (.if_icmp .ne 7, 3) := by decide +kernel
theorem dX7_bestOther_204 : decode cX7_bestOther 204 = .ok (.lconst 1, 1) := by decide +kernel
theorem dX7_bestOther_205 : decode cX7_bestOther 205 = .ok (.goto 4, 3) := by decide +kernel
theorem dX7_bestOther_208 : decode cX7_bestOther 208 = .ok (.lconst 0, 1) := by decide +kernel
theorem dX7_bestOther_209 : decode cX7_bestOther 209 = .ok (.lastore, 1) := by decide +kernel
theorem dX7_bestOther_210 : decode cX7_bestOther 210 = .ok (.aload_n 0, 1) := by decide +kernel
theorem dX7_bestOther_211 : decode cX7_bestOther 211 = .ok (.getfield 28, 3) := by decide +kernel
theorem dX7_bestOther_214 : decode cX7_bestOther 214 = .ok (.bipush 8, 2) := by decide +kernel
theorem dX7_bestOther_216 : decode cX7_bestOther 216 = .ok (.aload_n 0, 1) := by decide +kernel
theorem dX7_bestOther_217 : decode cX7_bestOther 217 = .ok (.getfield 25, 3) := by decide +kernel
theorem dX7_bestOther_220 : decode cX7_bestOther 220 = .ok (.iload 6, 2) := by decide +kernel
theorem dX7_bestOther_222 : decode cX7_bestOther 222 = .ok (.iaload, 1) := by decide +kernel
theorem dX7_bestOther_223 : decode cX7_bestOther 223 = .ok (.i2l, 1) := by decide +kernel
theorem dX7_bestOther_224 : decode cX7_bestOther 224 = .ok (.lastore, 1) := by decide +kernel
theorem dX7_bestOther_225 : decode cX7_bestOther 225 = .ok (.aload_n 0, 1) := by decide +kernel
theorem dX7_bestOther_226 : decode cX7_bestOther 226 = .ok (.invokevirtual 145, 3) := by decide +kernel
theorem dX7_bestOther_229 : decode cX7_bestOther 229 = .ok (.lstore 7, 2) := by decide +kernel
theorem dX7_bestOther_231 : decode cX7_bestOther 231 = .ok (.lload 7, 2) := by decide +kernel
theorem dX7_bestOther_233 : decode cX7_bestOther 233 = .ok (.lload 4, 2) := by decide +kernel
theorem dX7_bestOther_235 : decode cX7_bestOther 235 = .ok (.lcmp, 1) := by decide +kernel
theorem dX7_bestOther_236 : decode cX7_bestOther 236 = .ok (.ifCond .le 10, 3) := by decide +kernel
theorem dX7_bestOther_239 : decode cX7_bestOther 239 = .ok (.lload 7, 2) := by decide +kernel
theorem dX7_bestOther_241 : decode cX7_bestOther 241 = .ok (.lstore 4, 2) := by decide +kernel
theorem dX7_bestOther_243 : decode cX7_bestOther 243 = .ok (.iload 6, 2) := by decide +kernel
theorem dX7_bestOther_245 : decode cX7_bestOther 245 = .ok (.istore_n 3, 1) := by decide +kernel
theorem dX7_bestOther_246 : decode cX7_bestOther 246 = .ok (.iinc 6 1, 3) := by decide +kernel
theorem dX7_bestOther_249 : decode cX7_bestOther 249 = .ok (.goto (-141), 3) := by decide +kernel
theorem dX7_bestOther_252 : decode cX7_bestOther 252 = .ok (.iload_n 3, 1) := by decide +kernel
theorem dX7_bestOther_253 : decode cX7_bestOther 253 = .ok (.ireturn, 1) := by decide +kernel
def f_X7_bestOther_209 (k108 : (Int32 × Int64 × Int32) → mm_S → Option (Int32 × mm_S)) (a0 : Nat) (i1 : Int32) (i3 : Int32) (j4 : Int64) (i6 : Int32) (s0 : Nat) (s1 : Int32) (s2 : Int64) (σ : mm_S) : Option (Int32 × mm_S) :=
    gd s1 (mm_K s0).2 <|
    lt (su_j σ s0 s1.toNatClampNeg s2) fun σ2 =>
    gd i6 6 <|
    gd (8 : Int32) 13 <|
    lt (su_j σ2 209 (8 : Int32).toNatClampNeg ((σ2.1 208 i6.toNatClampNeg) : Int32).toInt64) fun σ6 =>
    bd (f_X7_worthByRule a0 σ6) fun r10 σ9 =>
    if (lg_cmp r10 j4) ≤ 0 then
      lt (i6 + Int32.ofInt (1)) fun x12 =>
      k108 (i3, j4, x12) σ9
    else
      lt (i6 + Int32.ofInt (1)) fun x14 =>
      k108 (i6, r10, x14) σ9
theorem v_X7_bestOther_209 {g : mm_G} (d : Nat) {k108 : (Int32 × Int64 × Int32) → mm_S → Option (Int32 × mm_S)} {a0 : Nat} {i1 : Int32} {i3 : Int32} {j4 : Int64} {i6 : Int32} {s0 : Nat} {s1 : Int32} {s2 : Int64} {σ : mm_S} {res : Int32 × mm_S} (H108 : ∀ v σ, k108 v σ = some res → SV g (d + 2) yy_X7_bestOther 108 [(0, .ref a0), (1, .int i1), (3, .int v.1), (4, .long v.2.1), (6, .int v.2.2)] [] σ (.int res.1) res.2) (h_a0 : (mm_K a0).1 = 7) (h_s0 : (mm_K s0).1 = 13) (h : f_X7_bestOther_209 k108 a0 i1 i3 j4 i6 s0 s1 s2 σ = some res) : SV g (d + 2) yy_X7_bestOther 209 [(0, .ref a0), (1, .int i1), (3, .int i3), (4, .long j4), (6, .int i6)] [.long s2, .int s1, .ref s0] σ (.int res.1) res.2 := by
  unfold f_X7_bestOther_209 at h
  obtain ⟨q1, h⟩ := gd_some h
  refine s_last dX7_bestOther_209 (ka_2 h_s0) q1 ?_
  obtain ⟨σ2, q3, h⟩ := lt_some h
  refine s_nms q3 ?_
  refine e_aload_n 0 dX7_bestOther_210 rfl rfl ?_
  refine s_getr dX7_bestOther_211 fl_RX7_28 h_a0 (r_7_10 h_a0).1 ?_
  refine e_bipush (v := (8 : Int32)) dX7_bestOther_214 (by decide) ?_
  refine e_aload_n 0 dX7_bestOther_216 rfl rfl ?_
  refine s_getr dX7_bestOther_217 fl_RX7_25 h_a0 (r_7_9 h_a0).1 ?_
  refine e_iload 4 dX7_bestOther_220  rfl ?_
  obtain ⟨q4, h⟩ := gd_some h
  refine s_iald dX7_bestOther_222 (r_7_9 (w := 0) h_a0).2 q4 ?_
  refine e_i2l dX7_bestOther_223 ?_
  obtain ⟨q5, h⟩ := gd_some h
  refine s_last dX7_bestOther_224 (r_7_10 (w := 0) h_a0).2 q5 ?_
  obtain ⟨σ6, q7, h⟩ := lt_some h
  refine s_nms q7 ?_
  refine e_aload_n 0 dX7_bestOther_225 rfl rfl ?_
  obtain ⟨r10, σ9, q8, h⟩ := bd_some h
  refine s_callVl [] dX7_bestOther_226 ml_RX7_145 h_a0 rfl rfl (v_X7_worthByRule (d + 0) h_a0 q8) (Nat.le_of_ble_eq_true rfl) ?_
  refine e_lstore (L' := [(0, .ref a0), (1, .int i1), (3, .int i3), (4, .long j4), (6, .int i6), (7, .long r10)]) dX7_bestOther_229  (by decide) rfl ?_
  refine e_lload 5 dX7_bestOther_231  rfl ?_
  refine e_lload 3 dX7_bestOther_233  rfl ?_
  refine e_lcmp dX7_bestOther_235 ?_
  refine e_if_le 246 dX7_bestOther_236 (by decide) (fun c11 => ?_) (fun c11 => ?_)
  · rw [if_pos c11] at h
    obtain ⟨x12, q13, h⟩ := lt_some h
    refine e_iinc (v := x12) (L' := [(0, .ref a0), (1, .int i1), (3, .int i3), (4, .long j4), (6, .int x12), (7, .long r10)]) 4 dX7_bestOther_246 rfl q13.symm (by decide) rfl ?_
    refine e_goto 108 dX7_bestOther_249 (by decide) ?_
    refine s_pick (L' := [(0, .ref a0), (1, .int i1), (3, .int i3), (4, .long j4), (6, .int x12)]) [0, 1, 2, 3, 4] rfl ?_
    exact H108 (i3, j4, x12) σ9 h
  · rw [if_neg c11] at h
    refine e_lload 5 dX7_bestOther_239  rfl ?_
    refine e_lstore (L' := [(0, .ref a0), (1, .int i1), (3, .int i3), (4, .long r10), (6, .int i6), (7, .long r10)]) dX7_bestOther_241  (by decide) rfl ?_
    refine e_iload 4 dX7_bestOther_243  rfl ?_
    refine e_istore_n (L' := [(0, .ref a0), (1, .int i1), (3, .int i6), (4, .long r10), (6, .int i6), (7, .long r10)]) dX7_bestOther_245 rfl (by decide) rfl ?_
    obtain ⟨x14, q15, h⟩ := lt_some h
    refine e_iinc (v := x14) (L' := [(0, .ref a0), (1, .int i1), (3, .int i6), (4, .long r10), (6, .int x14), (7, .long r10)]) 4 dX7_bestOther_246 rfl q15.symm (by decide) rfl ?_
    refine e_goto 108 dX7_bestOther_249 (by decide) ?_
    refine s_pick (L' := [(0, .ref a0), (1, .int i1), (3, .int i6), (4, .long r10), (6, .int x14)]) [0, 1, 2, 3, 4] rfl ?_
    exact H108 (i6, r10, x14) σ9 h
def f_X7_bestOther_108 (a0 : Nat) (i1 : Int32) (i3 : Int32) (j4 : Int64) (i6 : Int32) (σ : mm_S) : Option (Int32 × mm_S) :=
  lp lpN (fun (k108 : (Int32 × Int64 × Int32) → mm_S → Option (Int32 × mm_S)) (v : Int32 × Int64 × Int32) (σ : mm_S) =>
    if (σ.1 27 3) ≤ v.2.2 then
      some (v.1, σ)
    else
      if v.2.2 = i1 then
        lt (v.2.2 + Int32.ofInt (1)) fun x18 =>
        k108 (v.1, v.2.1, x18) σ
      else
        gd (1 : Int32) 13 <|
        lt (su_j σ 209 (1 : Int32).toNatClampNeg (v.2.2 : Int32).toInt64) fun σ21 =>
        gd v.2.2 6 <|
        gd (3 : Int32) 13 <|
        lt (su_j σ21 209 (3 : Int32).toNatClampNeg ((σ21.1 (201 + 1) v.2.2.toNatClampNeg) : Int32).toInt64) fun σ25 =>
        gd v.2.2 6 <|
        gd (5 : Int32) 13 <|
        lt (su_j σ25 209 (5 : Int32).toNatClampNeg ((σ25.1 (201 + 2) v.2.2.toNatClampNeg) : Int32).toInt64) fun σ29 =>
        bd (f_X1_dearness 27 i1 v.2.2 σ29) fun r33 σ32 =>
        gd (6 : Int32) 13 <|
        lt (su_j σ32 209 (6 : Int32).toNatClampNeg (r33 : Int32).toInt64) fun σ35 =>
        gd v.2.2 6 <|
        if (σ35.1 207 v.2.2.toNatClampNeg) = i1 then
          f_X7_bestOther_209 k108 a0 i1 v.1 v.2.1 v.2.2 209 (7 : Int32) (1 : Int64) σ35
        else
          f_X7_bestOther_209 k108 a0 i1 v.1 v.2.1 v.2.2 209 (7 : Int32) (0 : Int64) σ35) (i3, j4, i6) σ
theorem v_X7_bestOther_108 {g : mm_G} (d : Nat) {a0 : Nat} {i1 : Int32} {i3 : Int32} {j4 : Int64} {i6 : Int32} {σ : mm_S} {res : Int32 × mm_S}  (h_a0 : (mm_K a0).1 = 7) (h : f_X7_bestOther_108 a0 i1 i3 j4 i6 σ = some res) : SV g (d + 2) yy_X7_bestOther 108 [(0, .ref a0), (1, .int i1), (3, .int i3), (4, .long j4), (6, .int i6)] [] σ (.int res.1) res.2 := by
  unfold f_X7_bestOther_108 at h
  refine lp_ind (P := fun v σ => SV g (d + 2) yy_X7_bestOther 108 [(0, .ref a0), (1, .int i1), (3, .int v.1), (4, .long v.2.1), (6, .int v.2.2)] [] σ (.int res.1) res.2) (fun k108 H108 v σ h => ?_) _ (i3, j4, i6) σ h
  refine e_iload 4 dX7_bestOther_108  rfl ?_
  refine e_aload_n 0 dX7_bestOther_110 rfl rfl ?_
  refine s_getr dX7_bestOther_111 fl_RX7_35 h_a0 (r_7_0 h_a0).1 ?_
  refine s_geti dX7_bestOther_114 fl_RX7_92 (ka_1 (r_7_0 (w := 0) h_a0).2) ?_
  refine e_icmp_ge 252 dX7_bestOther_117 (by decide) (fun c16 => ?_) (fun c16 => ?_)
  · rw [if_pos c16] at h
    refine e_iload_n 2 dX7_bestOther_252 rfl rfl ?_
    obtain rfl := Option.some.inj h
    exact s_ret rfl ⟨_, rfl, rfl⟩ dX7_bestOther_253
  · rw [if_neg c16] at h
    refine e_iload 4 dX7_bestOther_120  rfl ?_
    refine e_iload_n 1 dX7_bestOther_122 rfl rfl ?_
    refine e_icmp_eq 246 dX7_bestOther_123 (by decide) (fun c17 => ?_) (fun c17 => ?_)
    · rw [if_pos c17] at h
      obtain ⟨x18, q19, h⟩ := lt_some h
      refine e_iinc (v := x18) (L' := [(0, .ref a0), (1, .int i1), (3, .int v.1), (4, .long v.2.1), (6, .int x18)]) 4 dX7_bestOther_246 rfl q19.symm (by decide) rfl ?_
      refine e_goto 108 dX7_bestOther_249 (by decide) ?_
      refine s_pick (L' := [(0, .ref a0), (1, .int i1), (3, .int v.1), (4, .long v.2.1), (6, .int x18)]) [0, 1, 2, 3, 4] rfl ?_
      exact H108 (v.1, v.2.1, x18) σ h
    · rw [if_neg c17] at h
      refine e_aload_n 0 dX7_bestOther_126 rfl rfl ?_
      refine s_getr dX7_bestOther_127 fl_RX7_28 h_a0 (r_7_10 h_a0).1 ?_
      refine e_iconst (v := (1 : Int32)) dX7_bestOther_130 (by decide) ?_
      refine e_iload 4 dX7_bestOther_131  rfl ?_
      refine e_i2l dX7_bestOther_133 ?_
      obtain ⟨q20, h⟩ := gd_some h
      refine s_last dX7_bestOther_134 (r_7_10 (w := 0) h_a0).2 q20 ?_
      obtain ⟨σ21, q22, h⟩ := lt_some h
      refine s_nms q22 ?_
      refine e_aload_n 0 dX7_bestOther_135 rfl rfl ?_
      refine s_getr dX7_bestOther_136 fl_RX7_28 h_a0 (r_7_10 h_a0).1 ?_
      refine e_iconst (v := (3 : Int32)) dX7_bestOther_139 (by decide) ?_
      refine e_aload_n 0 dX7_bestOther_140 rfl rfl ?_
      refine s_getr dX7_bestOther_141 fl_RX7_12 h_a0 (r_7_1 h_a0).1 ?_
      refine s_getr dX7_bestOther_144 fl_RX7_130 (ka_1 (r_7_1 (w := 0) h_a0).2) (r_2_2 (ka_1 (r_7_1 (w := 0) h_a0).2)).1 ?_
      refine e_iload 4 dX7_bestOther_147  rfl ?_
      obtain ⟨q23, h⟩ := gd_some h
      refine s_iald dX7_bestOther_149 (r_2_2 (w := 0) (ka_1 (r_7_1 (w := 0) h_a0).2)).2 q23 ?_
      refine e_i2l dX7_bestOther_150 ?_
      obtain ⟨q24, h⟩ := gd_some h
      refine s_last dX7_bestOther_151 (r_7_10 (w := 0) h_a0).2 q24 ?_
      obtain ⟨σ25, q26, h⟩ := lt_some h
      refine s_nms q26 ?_
      refine e_aload_n 0 dX7_bestOther_152 rfl rfl ?_
      refine s_getr dX7_bestOther_153 fl_RX7_28 h_a0 (r_7_10 h_a0).1 ?_
      refine e_iconst (v := (5 : Int32)) dX7_bestOther_156 (by decide) ?_
      refine e_aload_n 0 dX7_bestOther_157 rfl rfl ?_
      refine s_getr dX7_bestOther_158 fl_RX7_12 h_a0 (r_7_1 h_a0).1 ?_
      refine s_getr dX7_bestOther_161 fl_RX7_133 (ka_1 (r_7_1 (w := 0) h_a0).2) (r_2_3 (ka_1 (r_7_1 (w := 0) h_a0).2)).1 ?_
      refine e_iload 4 dX7_bestOther_164  rfl ?_
      obtain ⟨q27, h⟩ := gd_some h
      refine s_iald dX7_bestOther_166 (r_2_3 (w := 0) (ka_1 (r_7_1 (w := 0) h_a0).2)).2 q27 ?_
      refine e_i2l dX7_bestOther_167 ?_
      obtain ⟨q28, h⟩ := gd_some h
      refine s_last dX7_bestOther_168 (r_7_10 (w := 0) h_a0).2 q28 ?_
      obtain ⟨σ29, q30, h⟩ := lt_some h
      refine s_nms q30 ?_
      refine e_aload_n 0 dX7_bestOther_169 rfl rfl ?_
      refine s_getr dX7_bestOther_170 fl_RX7_28 h_a0 (r_7_10 h_a0).1 ?_
      refine e_bipush (v := (6 : Int32)) dX7_bestOther_173 (by decide) ?_
      refine e_aload_n 0 dX7_bestOther_175 rfl rfl ?_
      refine s_getr dX7_bestOther_176 fl_RX7_35 h_a0 (r_7_0 h_a0).1 ?_
      refine e_iload_n 1 dX7_bestOther_179 rfl rfl ?_
      refine e_iload 4 dX7_bestOther_180  rfl ?_
      obtain ⟨r33, σ32, q31, h⟩ := bd_some h
      refine s_callVi [.int i1, .int v.2.2] dX7_bestOther_182 ml_RX7_142 (ka_1 (r_7_0 (w := 0) h_a0).2) ⟨_, rfl, by decide⟩ rfl (v_X1_dearness (d + 1) (ka_1 (r_7_0 (w := 0) h_a0).2) q31) (Nat.le_of_ble_eq_true rfl) ?_
      refine e_i2l dX7_bestOther_185 ?_
      obtain ⟨q34, h⟩ := gd_some h
      refine s_last dX7_bestOther_186 (r_7_10 (w := 0) h_a0).2 q34 ?_
      obtain ⟨σ35, q36, h⟩ := lt_some h
      refine s_nms q36 ?_
      refine e_aload_n 0 dX7_bestOther_187 rfl rfl ?_
      refine s_getr dX7_bestOther_188 fl_RX7_28 h_a0 (r_7_10 h_a0).1 ?_
      refine e_bipush (v := (7 : Int32)) dX7_bestOther_191 (by decide) ?_
      refine e_aload_n 0 dX7_bestOther_193 rfl rfl ?_
      refine s_getr dX7_bestOther_194 fl_RX7_22 h_a0 (r_7_8 h_a0).1 ?_
      refine e_iload 4 dX7_bestOther_197  rfl ?_
      obtain ⟨q37, h⟩ := gd_some h
      refine s_iald dX7_bestOther_199 (r_7_8 (w := 0) h_a0).2 q37 ?_
      refine e_iload_n 1 dX7_bestOther_200 rfl rfl ?_
      refine e_icmp_ne 208 dX7_bestOther_201 (by decide) (fun c38 => ?_) (fun c38 => ?_)
      · rw [if_neg c38] at h
        refine e_lconst (v := (0 : Int64)) dX7_bestOther_208 (by decide) ?_
        refine s_pick (L' := [(0, .ref a0), (1, .int i1), (3, .int v.1), (4, .long v.2.1), (6, .int v.2.2)]) [0, 1, 2, 3, 4] rfl ?_
        exact v_X7_bestOther_209 d H108 h_a0 (ka_1 (r_7_10 (w := 0) h_a0).2) h
      · rw [if_pos c38] at h
        refine e_lconst (v := (1 : Int64)) dX7_bestOther_204 (by decide) ?_
        refine e_goto 209 dX7_bestOther_205 (by decide) ?_
        refine s_pick (L' := [(0, .ref a0), (1, .int i1), (3, .int v.1), (4, .long v.2.1), (6, .int v.2.2)]) [0, 1, 2, 3, 4] rfl ?_
        exact v_X7_bestOther_209 d H108 h_a0 (ka_1 (r_7_10 (w := 0) h_a0).2) h
def f_X7_bestOther (a0 : Nat) (i1 : Int32) (i2 : Int32) (σ : mm_S) : Option (Int32 × mm_S) :=
    gd (0 : Int32) 13 <|
    lt (su_j σ 209 (0 : Int32).toNatClampNeg (i1 : Int32).toInt64) fun σ66 =>
    gd i1 6 <|
    gd (2 : Int32) 13 <|
    lt (su_j σ66 209 (2 : Int32).toNatClampNeg ((σ66.1 (201 + 1) i1.toNatClampNeg) : Int32).toInt64) fun σ70 =>
    gd i1 6 <|
    gd (4 : Int32) 13 <|
    lt (su_j σ70 209 (4 : Int32).toNatClampNeg ((σ70.1 (201 + 2) i1.toNatClampNeg) : Int32).toInt64) fun σ74 =>
    bd (f_J6_bitCount_0f7a4 (σ74.1 201 1) σ74) fun r78 σ77 =>
    gd (9 : Int32) 13 <|
    lt (su_j σ77 209 (9 : Int32).toNatClampNeg (r78 : Int32).toInt64) fun σ80 =>
    gd (10 : Int32) 13 <|
    lt (su_j σ80 209 (10 : Int32).toNatClampNeg (i2 : Int32).toInt64) fun σ83 =>
    gd (11 : Int32) 13 <|
    lt (su_j σ83 209 (11 : Int32).toNatClampNeg (((σ83.1 201 0) - (σ83.1 201 0) / (12 : Int32) * (12 : Int32)) : Int32).toInt64) fun σ86 =>
    gd (12 : Int32) 13 <|
    lt (su_j σ86 209 (12 : Int32).toNatClampNeg ((σ86.1 201 0) : Int32).toInt64) fun σ89 =>
    f_X7_bestOther_108 a0 i1 (-1 : Int32) (0 : Int64) (0 : Int32) σ89
theorem v_X7_bestOther {g : mm_G} (d : Nat) {a0 : Nat} {i1 : Int32} {i2 : Int32} {σ : mm_S} {res : Int32 × mm_S} (h_a0 : (mm_K a0).1 = 7) (h : f_X7_bestOther a0 i1 i2 σ = some res) : SM g (d + 2) yy_X7_bestOther [.ref a0, .int i1, .int i2] σ (.int res.1) res.2 := by
  refine s_of (by decide) (Nat.le_of_ble_eq_true rfl) (L := [(0, .ref a0), (1, .int i1), (2, .int i2)]) rfl ?_
  unfold f_X7_bestOther at h
  refine e_aload_n 0 dX7_bestOther_0 rfl rfl ?_
  refine s_getr dX7_bestOther_1 fl_RX7_28 h_a0 (r_7_10 h_a0).1 ?_
  refine e_iconst (v := (0 : Int32)) dX7_bestOther_4 (by decide) ?_
  refine e_iload_n 1 dX7_bestOther_5 rfl rfl ?_
  refine e_i2l dX7_bestOther_6 ?_
  obtain ⟨q65, h⟩ := gd_some h
  refine s_last dX7_bestOther_7 (r_7_10 (w := 0) h_a0).2 q65 ?_
  obtain ⟨σ66, q67, h⟩ := lt_some h
  refine s_nms q67 ?_
  refine e_aload_n 0 dX7_bestOther_8 rfl rfl ?_
  refine s_getr dX7_bestOther_9 fl_RX7_28 h_a0 (r_7_10 h_a0).1 ?_
  refine e_iconst (v := (2 : Int32)) dX7_bestOther_12 (by decide) ?_
  refine e_aload_n 0 dX7_bestOther_13 rfl rfl ?_
  refine s_getr dX7_bestOther_14 fl_RX7_12 h_a0 (r_7_1 h_a0).1 ?_
  refine s_getr dX7_bestOther_17 fl_RX7_130 (ka_1 (r_7_1 (w := 0) h_a0).2) (r_2_2 (ka_1 (r_7_1 (w := 0) h_a0).2)).1 ?_
  refine e_iload_n 1 dX7_bestOther_20 rfl rfl ?_
  obtain ⟨q68, h⟩ := gd_some h
  refine s_iald dX7_bestOther_21 (r_2_2 (w := 0) (ka_1 (r_7_1 (w := 0) h_a0).2)).2 q68 ?_
  refine e_i2l dX7_bestOther_22 ?_
  obtain ⟨q69, h⟩ := gd_some h
  refine s_last dX7_bestOther_23 (r_7_10 (w := 0) h_a0).2 q69 ?_
  obtain ⟨σ70, q71, h⟩ := lt_some h
  refine s_nms q71 ?_
  refine e_aload_n 0 dX7_bestOther_24 rfl rfl ?_
  refine s_getr dX7_bestOther_25 fl_RX7_28 h_a0 (r_7_10 h_a0).1 ?_
  refine e_iconst (v := (4 : Int32)) dX7_bestOther_28 (by decide) ?_
  refine e_aload_n 0 dX7_bestOther_29 rfl rfl ?_
  refine s_getr dX7_bestOther_30 fl_RX7_12 h_a0 (r_7_1 h_a0).1 ?_
  refine s_getr dX7_bestOther_33 fl_RX7_133 (ka_1 (r_7_1 (w := 0) h_a0).2) (r_2_3 (ka_1 (r_7_1 (w := 0) h_a0).2)).1 ?_
  refine e_iload_n 1 dX7_bestOther_36 rfl rfl ?_
  obtain ⟨q72, h⟩ := gd_some h
  refine s_iald dX7_bestOther_37 (r_2_3 (w := 0) (ka_1 (r_7_1 (w := 0) h_a0).2)).2 q72 ?_
  refine e_i2l dX7_bestOther_38 ?_
  obtain ⟨q73, h⟩ := gd_some h
  refine s_last dX7_bestOther_39 (r_7_10 (w := 0) h_a0).2 q73 ?_
  obtain ⟨σ74, q75, h⟩ := lt_some h
  refine s_nms q75 ?_
  refine e_aload_n 0 dX7_bestOther_40 rfl rfl ?_
  refine s_getr dX7_bestOther_41 fl_RX7_28 h_a0 (r_7_10 h_a0).1 ?_
  refine e_bipush (v := (9 : Int32)) dX7_bestOther_44 (by decide) ?_
  refine e_aload_n 0 dX7_bestOther_46 rfl rfl ?_
  refine s_getr dX7_bestOther_47 fl_RX7_12 h_a0 (r_7_1 h_a0).1 ?_
  refine s_geti dX7_bestOther_50 fl_RX7_111 (ka_1 (r_7_1 (w := 0) h_a0).2) ?_
  obtain ⟨r78, σ77, q76, h⟩ := bd_some h
  refine s_callSi [.int (σ74.1 201 1)] dX7_bestOther_53 ml_RX7_136 ⟨_, rfl, by decide⟩ rfl (v_J6_bitCount_0f7a4 (d + 1)  q76) (Nat.le_of_ble_eq_true rfl) ?_
  refine e_i2l dX7_bestOther_56 ?_
  obtain ⟨q79, h⟩ := gd_some h
  refine s_last dX7_bestOther_57 (r_7_10 (w := 0) h_a0).2 q79 ?_
  obtain ⟨σ80, q81, h⟩ := lt_some h
  refine s_nms q81 ?_
  refine e_aload_n 0 dX7_bestOther_58 rfl rfl ?_
  refine s_getr dX7_bestOther_59 fl_RX7_28 h_a0 (r_7_10 h_a0).1 ?_
  refine e_bipush (v := (10 : Int32)) dX7_bestOther_62 (by decide) ?_
  refine e_iload_n 2 dX7_bestOther_64 rfl rfl ?_
  refine e_i2l dX7_bestOther_65 ?_
  obtain ⟨q82, h⟩ := gd_some h
  refine s_last dX7_bestOther_66 (r_7_10 (w := 0) h_a0).2 q82 ?_
  obtain ⟨σ83, q84, h⟩ := lt_some h
  refine s_nms q84 ?_
  refine e_aload_n 0 dX7_bestOther_67 rfl rfl ?_
  refine s_getr dX7_bestOther_68 fl_RX7_28 h_a0 (r_7_10 h_a0).1 ?_
  refine e_bipush (v := (11 : Int32)) dX7_bestOther_71 (by decide) ?_
  refine e_aload_n 0 dX7_bestOther_73 rfl rfl ?_
  refine s_getr dX7_bestOther_74 fl_RX7_12 h_a0 (r_7_1 h_a0).1 ?_
  refine s_geti dX7_bestOther_77 fl_RX7_85 (ka_1 (r_7_1 (w := 0) h_a0).2) ?_
  refine e_bipush (v := (12 : Int32)) dX7_bestOther_80 (by decide) ?_
  refine e_irem dX7_bestOther_82 (by decide) ?_
  refine e_i2l dX7_bestOther_83 ?_
  obtain ⟨q85, h⟩ := gd_some h
  refine s_last dX7_bestOther_84 (r_7_10 (w := 0) h_a0).2 q85 ?_
  obtain ⟨σ86, q87, h⟩ := lt_some h
  refine s_nms q87 ?_
  refine e_aload_n 0 dX7_bestOther_85 rfl rfl ?_
  refine s_getr dX7_bestOther_86 fl_RX7_28 h_a0 (r_7_10 h_a0).1 ?_
  refine e_bipush (v := (12 : Int32)) dX7_bestOther_89 (by decide) ?_
  refine e_aload_n 0 dX7_bestOther_91 rfl rfl ?_
  refine s_getr dX7_bestOther_92 fl_RX7_12 h_a0 (r_7_1 h_a0).1 ?_
  refine s_geti dX7_bestOther_95 fl_RX7_85 (ka_1 (r_7_1 (w := 0) h_a0).2) ?_
  refine e_i2l dX7_bestOther_98 ?_
  obtain ⟨q88, h⟩ := gd_some h
  refine s_last dX7_bestOther_99 (r_7_10 (w := 0) h_a0).2 q88 ?_
  obtain ⟨σ89, q90, h⟩ := lt_some h
  refine s_nms q90 ?_
  refine e_iconst (v := (-1 : Int32)) dX7_bestOther_100 (by decide) ?_
  refine e_istore_n (L' := [(0, .ref a0), (1, .int i1), (2, .int i2), (3, .int (-1 : Int32))]) dX7_bestOther_101 rfl (by decide) rfl ?_
  refine e_lconst (v := (0 : Int64)) dX7_bestOther_102 (by decide) ?_
  refine e_lstore (L' := [(0, .ref a0), (1, .int i1), (2, .int i2), (3, .int (-1 : Int32)), (4, .long (0 : Int64))]) dX7_bestOther_103  (by decide) rfl ?_
  refine e_iconst (v := (0 : Int32)) dX7_bestOther_105 (by decide) ?_
  refine e_istore (L' := [(0, .ref a0), (1, .int i1), (2, .int i2), (3, .int (-1 : Int32)), (4, .long (0 : Int64)), (6, .int (0 : Int32))]) dX7_bestOther_106  (by decide) rfl ?_
  refine s_pick (L' := [(0, .ref a0), (1, .int i1), (3, .int (-1 : Int32)), (4, .long (0 : Int64)), (6, .int (0 : Int32))]) [0, 1, 3, 4, 5] rfl ?_
  exact v_X7_bestOther_108 d h_a0 h
abbrev yy_X7_lookForOthers : mm_Y := (yX7_lookForOthers, cX7_lookForOthers, 4, none)
theorem dX7_lookForOthers_0 : decode cX7_lookForOthers 0 = .ok (.aload_n 0, 1) := by decide +kernel
theorem dX7_lookForOthers_1 : decode cX7_lookForOthers 1 = .ok (.getfield 12, 3) := by decide +kernel
theorem dX7_lookForOthers_4 : decode cX7_lookForOthers 4 = .ok (.getfield 114, 3) := by decide +kernel
theorem dX7_lookForOthers_7 : decode cX7_lookForOthers 7 = .ok (.iconst 0, 1) := by decide +kernel
theorem dX7_lookForOthers_8 : decode cX7_lookForOthers 8 = .ok (.aload_n 0, 1) := by decide +kernel
theorem dX7_lookForOthers_9 : decode cX7_lookForOthers 9 = .ok (.getfield 22, 3) := by decide +kernel
theorem dX7_lookForOthers_12 : decode cX7_lookForOthers 12 = .ok (.iconst 0, 1) := by decide +kernel
theorem dX7_lookForOthers_13 : decode cX7_lookForOthers 13 = .ok (.bipush 6, 2) := by decide +kernel
theorem dX7_lookForOthers_15 : decode cX7_lookForOthers 15 = .ok (.invokestatic 117, 3) := by decide +kernel
theorem dX7_lookForOthers_18 : decode cX7_lookForOthers 18 = .ok (.aload_n 0, 1) := by decide +kernel
theorem dX7_lookForOthers_19 : decode cX7_lookForOthers 19 = .ok (.getfield 25, 3) := by decide +kernel
theorem dX7_lookForOthers_22 : decode cX7_lookForOthers 22 = .ok (.iconst 0, 1) := by decide +kernel
theorem dX7_lookForOthers_23 : decode cX7_lookForOthers 23 = .ok (.invokestatic 60, 3) := by decide +kernel
theorem dX7_lookForOthers_26 : decode cX7_lookForOthers 26 = .ok (.aload_n 0, 1) := by decide +kernel
theorem dX7_lookForOthers_27 : decode cX7_lookForOthers 27 = .ok (.getfield 53, 3) := by decide +kernel
theorem dX7_lookForOthers_30 : decode cX7_lookForOthers 30 = .ok (.istore_n 1, 1) := by decide +kernel
theorem dX7_lookForOthers_31 : decode cX7_lookForOthers 31 = .ok (.iconst 0, 1) := by decide +kernel
theorem dX7_lookForOthers_32 : decode cX7_lookForOthers 32 = .ok (.istore_n 2, 1) := by decide +kernel
theorem dX7_lookForOthers_33 : decode cX7_lookForOthers 33 = .ok (.iload_n 2, 1) := by decide +kernel
theorem dX7_lookForOthers_34 : decode cX7_lookForOthers 34 = .ok (.aload_n 0, 1) := by decide +kernel
theorem dX7_lookForOthers_35 : decode cX7_lookForOthers 35 = .ok (.getfield 35, 3) := by decide +kernel
theorem dX7_lookForOthers_38 : decode cX7_lookForOthers 38 = .ok (.getfield 92, 3) := by decide +kernel
theorem dX7_lookForOthers_41 : decode cX7_lookForOthers 41 = .ok (.if_icmp .ge 82, 3) := by decide +kernel
theorem dX7_lookForOthers_44 : decode cX7_lookForOthers 44 = .ok (.iconst (-1), 1) := by decide +kernel
theorem dX7_lookForOthers_45 : decode cX7_lookForOthers 45 = .ok (.istore_n 3, 1) := by decide +kernel
theorem dX7_lookForOthers_46 : decode cX7_lookForOthers 46 = .ok (.aload_n 0, 1) := by decide +kernel
theorem dX7_lookForOthers_47 : decode cX7_lookForOthers 47 = .ok (.getfield 12, 3) := by decide +kernel
theorem dX7_lookForOthers_50 : decode cX7_lookForOthers 50 = .ok (.iload_n 2, 1) := by decide +kernel
theorem dX7_lookForOthers_51 : decode cX7_lookForOthers 51 = .ok (.invokevirtual 123, 3) := by decide +kernel
theorem dX7_lookForOthers_54 : decode cX7_lookForOthers 54 = .ok (.ifCond .ne 39, 3) := by decide +kernel
theorem dX7_lookForOthers_57 : decode cX7_lookForOthers 57 = .ok (.aload_n 0, 1) := by decide +kernel
theorem dX7_lookForOthers_58 : decode cX7_lookForOthers 58 = .ok (.getfield 18, 3) := by decide +kernel
theorem dX7_lookForOthers_61 : decode cX7_lookForOthers 61 = .ok (.iload_n 2, 1) := by decide +kernel
theorem dX7_lookForOthers_62 : decode cX7_lookForOthers 62 = .ok (.iaload, 1) := by decide +kernel
theorem dX7_lookForOthers_63 : decode cX7_lookForOthers 63 = .ok (.istore_n 3, 1) := by decide +kernel
theorem dX7_lookForOthers_64 : decode cX7_lookForOthers 64 = .ok (.iload_n 3, 1) := by decide +kernel
theorem dX7_lookForOthers_65 : decode cX7_lookForOthers 65 = .ok (.iconst (-1), 1) := by decide +kernel
theorem dX7_lookForOthers_66 : decode cX7_lookForOthers 66 = .ok (.if_icmp .ne 27, 3) := by decide +kernel
theorem dX7_lookForOthers_69 : decode cX7_lookForOthers 69 = .ok (.iload_n 1, 1) := by decide +kernel
theorem dX7_lookForOthers_70 : decode cX7_lookForOthers 70 = .ok (.ifCond .le 23, 3) := by decide +kernel
theorem dX7_lookForOthers_73 : decode cX7_lookForOthers 73 = .ok (.aload_n 0, 1) := by decide +kernel
theorem dX7_lookForOthers_74 : decode cX7_lookForOthers 74 = .ok (.iload_n 2, 1) := by decide +kernel
theorem dX7_lookForOthers_75 : decode cX7_lookForOthers 75 = .ok (.iload_n 1, 1) := by decide +kernel
theorem dX7_lookForOthers_76 : decode cX7_lookForOthers 76 = .ok (.invokevirtual 126, 3) := by decide +kernel
theorem dX7_lookForOthers_79 : decode cX7_lookForOthers 79 = .ok (.istore_n 3, 1) := by decide +kernel
theorem dX7_lookForOthers_80 : decode cX7_lookForOthers 80 = .ok (.iload_n 1, 1) := by decide +kernel
theorem dX7_lookForOthers_81 : decode cX7_lookForOthers 81 = .ok (.iload_n 3, 1) := by decide +kernel
theorem dX7_lookForOthers_82 : decode cX7_lookForOthers 82 = .ok (.iconst (-1), 1) := by decide +kernel
theorem dX7_lookForOthers_83 : decode cX7_lookForOthers 83 = .ok (.if_icmp .ne 7, 3) := by decide +kernel
theorem dX7_lookForOthers_86 : decode cX7_lookForOthers 86 = .ok (.iconst 0, 1) := by decide +kernel
theorem dX7_lookForOthers_87 : decode cX7_lookForOthers 87 = .ok (.goto 4, 3) := by decide +kernel
theorem dX7_lookForOthers_90 : decode cX7_lookForOthers 90 = .ok (.iconst 1, 1) := by decide +kernel
theorem dX7_lookForOthers_91 : decode cX7_lookForOthers 91 = .ok (.isub, 1) := by decide +kernel
theorem dX7_lookForOthers_92 : decode cX7_lookForOthers 92 = .ok (.istore_n 1, 1) := by decide +kernel
theorem dX7_lookForOthers_93 : decode cX7_lookForOthers 93 = .ok (.aload_n 0, 1) := by decide +kernel
theorem dX7_lookForOthers_94 : decode cX7_lookForOthers 94 = .ok (.getfield 12, 3) := by decide +kernel
theorem dX7_lookForOthers_97 : decode cX7_lookForOthers 97 = .ok (.getfield 114, 3) := by decide +kernel
theorem dX7_lookForOthers_100 : decode cX7_lookForOthers 100 = .ok (.iload_n 2, 1) := by decide +kernel
theorem dX7_lookForOthers_101 : decode cX7_lookForOthers 101 = .ok (.iload_n 3, 1) := by decide +kernel
theorem dX7_lookForOthers_102 : decode cX7_lookForOthers 102 = .ok (.iastore, 1) := by decide +kernel
theorem dX7_lookForOthers_103 : decode cX7_lookForOthers 103 = .ok (.iload_n 3, 1) := by decide +kernel
theorem dX7_lookForOthers_104 : decode cX7_lookForOthers 104 = .ok (.ifCond .lt 13, 3) := by decide +kernel
theorem dX7_lookForOthers_107 : decode cX7_lookForOthers 107 = .ok (.aload_n 0, 1) := by decide +kernel
theorem dX7_lookForOthers_108 : decode cX7_lookForOthers 108 = .ok (.getfield 25, 3) := by decide +kernel
theorem dX7_lookForOthers_111 : decode cX7_lookForOthers 111 = .ok (.iload_n 3, 1) := by decide +kernel
theorem dX7_lookForOthers_112 : decode cX7_lookForOthers 112 = .ok (.dup2, 1) := by decide +kernel
theorem dX7_lookForOthers_113 : decode cX7_lookForOthers 113 = .ok (.iaload, 1) := by decide +kernel
theorem dX7_lookForOthers_114 : decode cX7_lookForOthers 114 = .ok (.iconst 1, 1) := by decide +kernel
theorem dX7_lookForOthers_115 : decode cX7_lookForOthers 115 = .ok (.iadd, 1) := by decide +kernel
theorem dX7_lookForOthers_116 : decode cX7_lookForOthers 116 = .ok (.iastore, 1) := by decide +kernel
theorem dX7_lookForOthers_117 : decode cX7_lookForOthers 117 = .ok (.iinc 2 1, 3) := by decide +kernel
theorem dX7_lookForOthers_120 : decode cX7_lookForOthers 120 = .ok (.goto (-87), 3) := by decide +kernel
theorem dX7_lookForOthers_123 : decode cX7_lookForOthers 123 = .ok (.return_, 1) := by decide +kernel
def f_X7_lookForOthers_93 (k33 : (Int32 × Int32) → mm_S → Option (mm_S)) (a0 : Nat) (i1 : Int32) (i2 : Int32) (i3 : Int32) (σ : mm_S) : Option (mm_S) :=
    gd i2 6 <|
    lt (su_i σ (201 + 3) i2.toNatClampNeg i3) fun σ2 =>
    if i3 < 0 then
      lt (i2 + Int32.ofInt (1)) fun x5 =>
      k33 (i1, x5) σ2
    else
      gd i3 6 <|
      gd i3 6 <|
      lt (su_i σ2 208 i3.toNatClampNeg ((σ2.1 208 i3.toNatClampNeg) + (1 : Int32))) fun σ9 =>
      lt (i2 + Int32.ofInt (1)) fun x11 =>
      k33 (i1, x11) σ9
theorem v_X7_lookForOthers_93 {g : mm_G} (d : Nat) {k33 : (Int32 × Int32) → mm_S → Option (mm_S)} {a0 : Nat} {i1 : Int32} {i2 : Int32} {i3 : Int32} {σ : mm_S} {res : mm_S} (H33 : ∀ v σ, k33 v σ = some res → SV g (d + 3) yy_X7_lookForOthers 33 [(0, .ref a0), (1, .int v.1), (2, .int v.2)] [] σ .null res) (h_a0 : (mm_K a0).1 = 7) (h : f_X7_lookForOthers_93 k33 a0 i1 i2 i3 σ = some res) : SV g (d + 3) yy_X7_lookForOthers 93 [(0, .ref a0), (1, .int i1), (2, .int i2), (3, .int i3)] [] σ .null res := by
  unfold f_X7_lookForOthers_93 at h
  refine e_aload_n 0 dX7_lookForOthers_93 rfl rfl ?_
  refine s_getr dX7_lookForOthers_94 fl_RX7_12 h_a0 (r_7_1 h_a0).1 ?_
  refine s_getr dX7_lookForOthers_97 fl_RX7_114 (ka_1 (r_7_1 (w := 0) h_a0).2) (r_2_4 (ka_1 (r_7_1 (w := 0) h_a0).2)).1 ?_
  refine e_iload_n 2 dX7_lookForOthers_100 rfl rfl ?_
  refine e_iload_n 3 dX7_lookForOthers_101 rfl rfl ?_
  obtain ⟨q1, h⟩ := gd_some h
  refine s_iast dX7_lookForOthers_102 (r_2_4 (w := 0) (ka_1 (r_7_1 (w := 0) h_a0).2)).2 q1 ?_
  obtain ⟨σ2, q3, h⟩ := lt_some h
  refine s_nms q3 ?_
  refine e_iload_n 3 dX7_lookForOthers_103 rfl rfl ?_
  refine e_if_lt 117 dX7_lookForOthers_104 (by decide) (fun c4 => ?_) (fun c4 => ?_)
  · rw [if_pos c4] at h
    obtain ⟨x5, q6, h⟩ := lt_some h
    refine e_iinc (v := x5) (L' := [(0, .ref a0), (1, .int i1), (2, .int x5), (3, .int i3)]) 2 dX7_lookForOthers_117 rfl q6.symm (by decide) rfl ?_
    refine e_goto 33 dX7_lookForOthers_120 (by decide) ?_
    refine s_pick (L' := [(0, .ref a0), (1, .int i1), (2, .int x5)]) [0, 1, 2] rfl ?_
    exact H33 (i1, x5) σ2 h
  · rw [if_neg c4] at h
    refine e_aload_n 0 dX7_lookForOthers_107 rfl rfl ?_
    refine s_getr dX7_lookForOthers_108 fl_RX7_25 h_a0 (r_7_9 h_a0).1 ?_
    refine e_iload_n 3 dX7_lookForOthers_111 rfl rfl ?_
    refine e_dup2 dX7_lookForOthers_112 rfl rfl ?_
    obtain ⟨q7, h⟩ := gd_some h
    refine s_iald dX7_lookForOthers_113 (r_7_9 (w := 0) h_a0).2 q7 ?_
    refine e_iconst (v := (1 : Int32)) dX7_lookForOthers_114 (by decide) ?_
    refine e_iadd dX7_lookForOthers_115 ?_
    obtain ⟨q8, h⟩ := gd_some h
    refine s_iast dX7_lookForOthers_116 (r_7_9 (w := 0) h_a0).2 q8 ?_
    obtain ⟨σ9, q10, h⟩ := lt_some h
    refine s_nms q10 ?_
    obtain ⟨x11, q12, h⟩ := lt_some h
    refine e_iinc (v := x11) (L' := [(0, .ref a0), (1, .int i1), (2, .int x11), (3, .int i3)]) 2 dX7_lookForOthers_117 rfl q12.symm (by decide) rfl ?_
    refine e_goto 33 dX7_lookForOthers_120 (by decide) ?_
    refine s_pick (L' := [(0, .ref a0), (1, .int i1), (2, .int x11)]) [0, 1, 2] rfl ?_
    exact H33 (i1, x11) σ9 h
def f_X7_lookForOthers_33 (a0 : Nat) (i1 : Int32) (i2 : Int32) (σ : mm_S) : Option (mm_S) :=
  lp lpN (fun (k33 : (Int32 × Int32) → mm_S → Option (mm_S)) (v : Int32 × Int32) (σ : mm_S) =>
    if (σ.1 27 3) ≤ v.2 then
      some σ
    else
      bd (f_X2_isIn 201 v.2 σ) fun r16 σ15 =>
      if r16 = 0 then
        gd v.2 6 <|
        lt ((σ15.1 206 v.2.toNatClampNeg)) fun x19 =>
        if x19 = (-1 : Int32) then
          if v.1 ≤ 0 then
            f_X7_lookForOthers_93 k33 a0 v.1 v.2 x19 σ15
          else
            bd (f_X7_bestOther a0 v.2 v.1 σ15) fun r25 σ24 =>
            if r25 = (-1 : Int32) then
              lt ((v.1 - (0 : Int32))) fun x29 =>
              f_X7_lookForOthers_93 k33 a0 x29 v.2 r25 σ24
            else
              lt ((v.1 - (1 : Int32))) fun x27 =>
              f_X7_lookForOthers_93 k33 a0 x27 v.2 r25 σ24
        else
          f_X7_lookForOthers_93 k33 a0 v.1 v.2 x19 σ15
      else
        f_X7_lookForOthers_93 k33 a0 v.1 v.2 (-1 : Int32) σ15) (i1, i2) σ
theorem v_X7_lookForOthers_33 {g : mm_G} (d : Nat) {a0 : Nat} {i1 : Int32} {i2 : Int32} {σ : mm_S} {res : mm_S}  (h_a0 : (mm_K a0).1 = 7) (h : f_X7_lookForOthers_33 a0 i1 i2 σ = some res) : SV g (d + 3) yy_X7_lookForOthers 33 [(0, .ref a0), (1, .int i1), (2, .int i2)] [] σ .null res := by
  unfold f_X7_lookForOthers_33 at h
  refine lp_ind (P := fun v σ => SV g (d + 3) yy_X7_lookForOthers 33 [(0, .ref a0), (1, .int v.1), (2, .int v.2)] [] σ .null res) (fun k33 H33 v σ h => ?_) _ (i1, i2) σ h
  refine e_iload_n 2 dX7_lookForOthers_33 rfl rfl ?_
  refine e_aload_n 0 dX7_lookForOthers_34 rfl rfl ?_
  refine s_getr dX7_lookForOthers_35 fl_RX7_35 h_a0 (r_7_0 h_a0).1 ?_
  refine s_geti dX7_lookForOthers_38 fl_RX7_92 (ka_1 (r_7_0 (w := 0) h_a0).2) ?_
  refine e_icmp_ge 123 dX7_lookForOthers_41 (by decide) (fun c13 => ?_) (fun c13 => ?_)
  · rw [if_pos c13] at h
    obtain rfl := Option.some.inj h
    exact s_ret rfl rfl dX7_lookForOthers_123
  · rw [if_neg c13] at h
    refine e_iconst (v := (-1 : Int32)) dX7_lookForOthers_44 (by decide) ?_
    refine e_istore_n (L' := [(0, .ref a0), (1, .int v.1), (2, .int v.2), (3, .int (-1 : Int32))]) dX7_lookForOthers_45 rfl (by decide) rfl ?_
    refine e_aload_n 0 dX7_lookForOthers_46 rfl rfl ?_
    refine s_getr dX7_lookForOthers_47 fl_RX7_12 h_a0 (r_7_1 h_a0).1 ?_
    refine e_iload_n 2 dX7_lookForOthers_50 rfl rfl ?_
    obtain ⟨r16, σ15, q14, h⟩ := bd_some h
    refine s_callVi [.int v.2] dX7_lookForOthers_51 ml_RX7_123 (ka_1 (r_7_1 (w := 0) h_a0).2) ⟨_, rfl, by decide⟩ rfl (v_X2_isIn (d + 2) (ka_1 (r_7_1 (w := 0) h_a0).2) q14) (Nat.le_of_ble_eq_true rfl) ?_
    refine e_if_ne 93 dX7_lookForOthers_54 (by decide) (fun c17 => ?_) (fun c17 => ?_)
    · rw [if_neg c17] at h
      refine s_pick (L' := [(0, .ref a0), (1, .int v.1), (2, .int v.2), (3, .int (-1 : Int32))]) [0, 1, 2, 3] rfl ?_
      exact v_X7_lookForOthers_93 d H33 h_a0 h
    · rw [if_pos c17] at h
      refine e_aload_n 0 dX7_lookForOthers_57 rfl rfl ?_
      refine s_getr dX7_lookForOthers_58 fl_RX7_18 h_a0 (r_7_6 h_a0).1 ?_
      refine e_iload_n 2 dX7_lookForOthers_61 rfl rfl ?_
      obtain ⟨q18, h⟩ := gd_some h
      refine s_iald dX7_lookForOthers_62 (r_7_6 (w := 0) h_a0).2 q18 ?_
      obtain ⟨x19, q20, h⟩ := lt_some h
      refine s_nmi q20 ?_
      refine e_istore_n (L' := [(0, .ref a0), (1, .int v.1), (2, .int v.2), (3, .int x19)]) dX7_lookForOthers_63 rfl (by decide) rfl ?_
      refine e_iload_n 3 dX7_lookForOthers_64 rfl rfl ?_
      refine e_iconst (v := (-1 : Int32)) dX7_lookForOthers_65 (by decide) ?_
      refine e_icmp_ne 93 dX7_lookForOthers_66 (by decide) (fun c21 => ?_) (fun c21 => ?_)
      · rw [if_neg c21] at h
        refine s_pick (L' := [(0, .ref a0), (1, .int v.1), (2, .int v.2), (3, .int x19)]) [0, 1, 2, 3] rfl ?_
        exact v_X7_lookForOthers_93 d H33 h_a0 h
      · rw [if_pos c21] at h
        refine e_iload_n 1 dX7_lookForOthers_69 rfl rfl ?_
        refine e_if_le 93 dX7_lookForOthers_70 (by decide) (fun c22 => ?_) (fun c22 => ?_)
        · rw [if_pos c22] at h
          refine s_pick (L' := [(0, .ref a0), (1, .int v.1), (2, .int v.2), (3, .int x19)]) [0, 1, 2, 3] rfl ?_
          exact v_X7_lookForOthers_93 d H33 h_a0 h
        · rw [if_neg c22] at h
          refine e_aload_n 0 dX7_lookForOthers_73 rfl rfl ?_
          refine e_iload_n 2 dX7_lookForOthers_74 rfl rfl ?_
          refine e_iload_n 1 dX7_lookForOthers_75 rfl rfl ?_
          obtain ⟨r25, σ24, q23, h⟩ := bd_some h
          refine s_callVi [.int v.2, .int v.1] dX7_lookForOthers_76 ml_RX7_126 h_a0 ⟨_, rfl, by decide⟩ rfl (v_X7_bestOther (d + 0) h_a0 q23) (Nat.le_of_ble_eq_true rfl) ?_
          refine e_istore_n (L' := [(0, .ref a0), (1, .int v.1), (2, .int v.2), (3, .int r25)]) dX7_lookForOthers_79 rfl (by decide) rfl ?_
          refine e_iload_n 1 dX7_lookForOthers_80 rfl rfl ?_
          refine e_iload_n 3 dX7_lookForOthers_81 rfl rfl ?_
          refine e_iconst (v := (-1 : Int32)) dX7_lookForOthers_82 (by decide) ?_
          refine e_icmp_ne 90 dX7_lookForOthers_83 (by decide) (fun c26 => ?_) (fun c26 => ?_)
          · rw [if_neg c26] at h
            refine e_iconst (v := (1 : Int32)) dX7_lookForOthers_90 (by decide) ?_
            refine e_isub dX7_lookForOthers_91 ?_
            obtain ⟨x27, q28, h⟩ := lt_some h
            refine s_nmi q28 ?_
            refine e_istore_n (L' := [(0, .ref a0), (1, .int x27), (2, .int v.2), (3, .int r25)]) dX7_lookForOthers_92 rfl (by decide) rfl ?_
            refine s_pick (L' := [(0, .ref a0), (1, .int x27), (2, .int v.2), (3, .int r25)]) [0, 1, 2, 3] rfl ?_
            exact v_X7_lookForOthers_93 d H33 h_a0 h
          · rw [if_pos c26] at h
            refine e_iconst (v := (0 : Int32)) dX7_lookForOthers_86 (by decide) ?_
            refine e_goto 91 dX7_lookForOthers_87 (by decide) ?_
            refine e_isub dX7_lookForOthers_91 ?_
            obtain ⟨x29, q30, h⟩ := lt_some h
            refine s_nmi q30 ?_
            refine e_istore_n (L' := [(0, .ref a0), (1, .int x29), (2, .int v.2), (3, .int r25)]) dX7_lookForOthers_92 rfl (by decide) rfl ?_
            refine s_pick (L' := [(0, .ref a0), (1, .int x29), (2, .int v.2), (3, .int r25)]) [0, 1, 2, 3] rfl ?_
            exact v_X7_lookForOthers_93 d H33 h_a0 h
def f_X7_lookForOthers (a0 : Nat) (σ : mm_S) : Option (mm_S) :=
    lt (su_c σ (201 + 3) 0 207 0 6) fun σ37 =>
    bv (f_J7_fill_53178 208 (0 : Int32) σ37) fun σ40 =>
    lt ((σ40.1 a0 3)) fun x41 =>
    f_X7_lookForOthers_33 a0 x41 (0 : Int32) σ40
theorem v_X7_lookForOthers {g : mm_G} (d : Nat) {a0 : Nat} {σ : mm_S} {res : mm_S} (h_a0 : (mm_K a0).1 = 7) (h : f_X7_lookForOthers a0 σ = some res) : SM g (d + 3) yy_X7_lookForOthers [.ref a0] σ .null res := by
  refine s_of (by decide) (Nat.le_of_ble_eq_true rfl) (L := [(0, .ref a0)]) rfl ?_
  unfold f_X7_lookForOthers at h
  refine e_aload_n 0 dX7_lookForOthers_0 rfl rfl ?_
  refine s_getr dX7_lookForOthers_1 fl_RX7_12 h_a0 (r_7_1 h_a0).1 ?_
  refine s_getr dX7_lookForOthers_4 fl_RX7_114 (ka_1 (r_7_1 (w := 0) h_a0).2) (r_2_4 (ka_1 (r_7_1 (w := 0) h_a0).2)).1 ?_
  refine e_iconst (v := (0 : Int32)) dX7_lookForOthers_7 (by decide) ?_
  refine e_aload_n 0 dX7_lookForOthers_8 rfl rfl ?_
  refine s_getr dX7_lookForOthers_9 fl_RX7_22 h_a0 (r_7_8 h_a0).1 ?_
  refine e_iconst (v := (0 : Int32)) dX7_lookForOthers_12 (by decide) ?_
  refine e_bipush (v := (6 : Int32)) dX7_lookForOthers_13 (by decide) ?_
  refine s_copy dX7_lookForOthers_15 cp_RX7_117 (r_2_4 (w := 0) (ka_1 (r_7_1 (w := 0) h_a0).2)).2 (r_7_8 (w := 0) h_a0).2 (by decide) (by decide) (by decide) (by decide) (by decide) (by decide) ?_
  obtain ⟨σ37, q38, h⟩ := lt_some h
  refine s_nms q38 ?_
  refine e_aload_n 0 dX7_lookForOthers_18 rfl rfl ?_
  refine s_getr dX7_lookForOthers_19 fl_RX7_25 h_a0 (r_7_9 h_a0).1 ?_
  refine e_iconst (v := (0 : Int32)) dX7_lookForOthers_22 (by decide) ?_
  obtain ⟨σ40, q39, h⟩ := bv_some h
  refine s_callSv [.ref 208, .int (0 : Int32)] dX7_lookForOthers_23 ml_RX7_60 rfl rfl (v_J7_fill_53178 (d + 2) (ka_1 (r_7_9 (w := 0) h_a0).2) q39) (Nat.le_of_ble_eq_true rfl) ?_
  refine e_aload_n 0 dX7_lookForOthers_26 rfl rfl ?_
  refine s_geti dX7_lookForOthers_27 fl_RX7_53 h_a0 ?_
  obtain ⟨x41, q42, h⟩ := lt_some h
  refine s_nmi q42 ?_
  refine e_istore_n (L' := [(0, .ref a0), (1, .int x41)]) dX7_lookForOthers_30 rfl (by decide) rfl ?_
  refine e_iconst (v := (0 : Int32)) dX7_lookForOthers_31 (by decide) ?_
  refine e_istore_n (L' := [(0, .ref a0), (1, .int x41), (2, .int (0 : Int32))]) dX7_lookForOthers_32 rfl (by decide) rfl ?_
  refine s_pick (L' := [(0, .ref a0), (1, .int x41), (2, .int (0 : Int32))]) [0, 1, 2] rfl ?_
  exact v_X7_lookForOthers_33 d h_a0 h
