section EVO
variable {g : mm_G} {d : Nat} {y : mm_Y} {k n0 pc : Nat} {L : mm_L} {st : List Value} {μ : mm_M} {Q : Value → mm_M → Prop}
theorem e_ldcS (hd : decode y.2.1 pc = .ok (.ldc 93, 2)) (hc : y.1.cls = RX4) (hk : mm_EV g d y k n0 (pc + 2) L (.retAddr 1 :: st) μ Q) : mm_EV g d y k n0 pc L st μ Q := by
  intro p e s m args below meth cc R Z cx hr H locs ls hH hS hl
  exact va_ldcS cx.1 cx.2.1 cx.2.2.2.1 (by rw [hc]; exact cx.2.2.2.2.2.2.1.2.2.1) hd (hk p e s m args below meth cc R Z cx hr H locs ls hH hS hl)
theorem e_aload_n1 (q : Nat) {j : Fin 4} {i : Nat} (hd : decode y.2.1 pc = .ok (.aload_n j, 1)) (hi : (j : Nat) = i) (hq : L[q]? = some (i, .retAddr 1)) (hk : mm_EV g d y k n0 (pc + 1) L (.retAddr 1 :: st) μ Q) : mm_EV g d y k n0 pc L st μ Q := by
  intro p e s m args below meth cc R Z cx hr H locs ls hH hS hl
  exact lv_aload_n cx.1 cx.2.1 hd hi (mm_em_at hl q hq) (hk p e s m args below meth cc R Z cx hr H locs ls hH hS hl)
theorem e_aload_n2 (q : Nat) {j : Fin 4} {i : Nat} (hd : decode y.2.1 pc = .ok (.aload_n j, 1)) (hi : (j : Nat) = i) (hq : L[q]? = some (i, .retAddr 2)) (hk : mm_EV g d y k n0 (pc + 1) L (.retAddr 2 :: st) μ Q) : mm_EV g d y k n0 pc L st μ Q := by
  intro p e s m args below meth cc R Z cx hr H locs ls hH hS hl
  exact lv_aload_n cx.1 cx.2.1 hd hi (mm_em_at hl q hq) (hk p e s m args below meth cc R Z cx hr H locs ls hH hS hl)
theorem e_strval {idx : Nat} (hd : decode y.2.1 pc = .ok (.getfield idx, 3)) (hl0 : Cond.fieldLink y.1.cls idx "java/lang/String" "value" "[B" ∈ mm_T) (hk : mm_EV g d y k n0 (pc + 3) L (.retAddr 2 :: st) μ Q) : mm_EV g d y k n0 pc L (.retAddr 1 :: st) μ Q := by
  intro p e s m args below meth cc R Z cx hr H locs ls hH hS hl
  exact vk_getf cx.1 cx.2.1 (cx.2.2.2.2.2.2.1.2.2.2.1.1 0 (by decide)).2.2.1 hS cx.2.2.2.1 (cx.2.2.2.2.1 _ hl0) (fun _ h => h) hd (hk p e s m args below meth cc R Z cx hr H locs ls hH hS hl)
theorem e_strcod {idx : Nat} (hd : decode y.2.1 pc = .ok (.getfield idx, 3)) (hl0 : Cond.fieldLink y.1.cls idx "java/lang/String" "coder" "B" ∈ mm_T) (hk : mm_EV g d y k n0 (pc + 3) L (.int 0 :: st) μ Q) : mm_EV g d y k n0 pc L (.retAddr 1 :: st) μ Q := by
  intro p e s m args below meth cc R Z cx hr H locs ls hH hS hl
  exact vk_getf cx.1 cx.2.1 (cx.2.2.2.2.2.2.1.2.2.2.1.1 0 (by decide)).2.1 hS cx.2.2.2.1 (cx.2.2.2.2.1 _ hl0) (fun _ h => h) hd (hk p e s m args below meth cc R Z cx hr H locs ls hH hS hl)
theorem e_gsC {idx : Nat} (hd : decode y.2.1 pc = .ok (.getstatic idx, 3)) (hl0 : Cond.fieldLink y.1.cls idx "java/lang/String" "COMPACT_STRINGS" "Z" ∈ mm_T) (hk : mm_EV g d y k n0 (pc + 3) L (.int 1 :: st) μ Q) : mm_EV g d y k n0 pc L st μ Q := by
  intro p e s m args below meth cc R Z cx hr H locs ls hH hS hl
  exact va_gets cx.1 cx.2.1 cx.2.2.2.2.2.2.1.2.2.2.2.1 hS cx.2.2.2.1 (cx.2.2.2.2.1 _ hl0) (fun _ h => h) hd (hk p e s m args below meth cc R Z cx hr H locs ls hH hS hl)
theorem e_gsF {idx : Nat} (hd : decode y.2.1 pc = .ok (.getstatic idx, 3)) (hl0 : Cond.fieldLink y.1.cls idx "jdk/internal/util/Preconditions" "SIOOBE_FORMATTER" "Ljava/util/function/BiFunction;" ∈ mm_T) (hk : mm_EV g d y k n0 (pc + 3) L (.retAddr 3 :: st) μ Q) : mm_EV g d y k n0 pc L st μ Q := by
  intro p e s m args below meth cc R Z cx hr H locs ls hH hS hl
  exact va_gets cx.1 cx.2.1 cx.2.2.2.2.2.2.1.2.2.2.2.2.1 hS cx.2.2.2.1 (cx.2.2.2.2.1 _ hl0) (fun _ h => h) hd (hk p e s m args below meth cc R Z cx hr H locs ls hH hS hl)
theorem e_lenB (hd : decode y.2.1 pc = .ok (.arraylength, 1)) (hk : mm_EV g d y k n0 (pc + 1) L (.int 122 :: st) μ Q) : mm_EV g d y k n0 pc L (.retAddr 2 :: st) μ Q := by
  intro p e s m args below meth cc R Z cx hr H locs ls hH hS hl
  exact va_tlen cx.1 cx.2.1 (cx.2.2.2.2.2.2.1.2.2.2.1.1 0 (by decide)).2.2.2 hS (v := 122) rfl hd (hk p e s m args below meth cc R Z cx hr H locs ls hH hS hl)
theorem e_bldB {j : Int32} (hd : decode y.2.1 pc = .ok (.baload, 1)) (hin : vp_in j 122) (hk : mm_EV g d y k n0 (pc + 1) L (.int (mm_by.getD j.toNatClampNeg 0) :: st) μ Q) : mm_EV g d y k n0 pc L (.int j :: .retAddr 2 :: st) μ Q := by
  intro p e s m args below meth cc R Z cx hr H locs ls hH hS hl
  exact va_tb cx.1 cx.2.1 (cx.2.2.2.2.2.2.1.2.2.2.1.1 0 (by decide)).2.2.2 hS hin rfl hd (hk p e s m args below meth cc R Z cx hr H locs ls hH hS hl)
theorem e_i2c {x : Int32} (hd : decode y.2.1 pc = .ok (.i2c, 1)) (hk : mm_EV g d y k n0 (pc + 1) L (.int (x.toUInt32 % 65536).toInt32 :: st) μ Q) : mm_EV g d y k n0 pc L (.int x :: st) μ Q := by
  intro p e s m args below meth cc R Z cx hr H locs ls hH hS hl
  exact lv_i2c cx.1 cx.2.1 hd rfl (hk p e s m args below meth cc R Z cx hr H locs ls hH hS hl)
end EVO
def mm_mlW (own : String) (idx : Nat) (z : mm_Y) (n : Nat) : Prop := z.1.cls = RJ0 ∧ mm_mlB own idx z n ∧ Cond.instanceMethod z.1 ∈ mm_T ∧ Cond.selects RJ0 z.1 z.1 ∈ mm_T
theorem mm_lgl (g : mm_G) : ∀ av : List Value, (lg_sl (av.map (mm_e g))).length = (lg_sl av).length := by
  intro av
  induction av with
  | nil => rfl
  | cons v vs ih =>
    show ((if (mm_e g v).category = 2 then [Slot.val (mm_e g v), .second] else [.val (mm_e g v)]) ++ lg_sl (vs.map (mm_e g))).length = ((if v.category = 2 then [Slot.val v, .second] else [.val v]) ++ lg_sl vs).length
    rw [List.length_append, List.length_append, ih, mm_cat]
    by_cases h : v.category = 2
    · rw [if_pos h, if_pos h]; rfl
    · rw [if_neg h, if_neg h]; rfl
theorem e_callW {g : mm_G} {d : Nat} {y : mm_Y} {k n0 pc : Nat} {L : mm_L} {st : List Value} {μ : mm_M} {Q : Value → mm_M → Prop} {z : mm_Y} {idx kz : Nat} {av : List Value} {st0 : List Value} {Qz : Value → mm_M → Prop} (hd : decode y.2.1 pc = .ok (.invokevirtual idx, 3)) (hl0 : mm_mlW y.1.cls idx z av.length) (hret : ∃ ty, z.2.2.2 = some ty ∧ ty ≠ .long) (hst : st0 = av.reverse ++ .retAddr 1 :: st) (hM : mm_MV g d z kz (.retAddr 1 :: av) μ Qz) (hn0 : n0 ≤ mn μ) (hkz : mn μ + kz ≤ n0 + k) (hw : (st.map fun v => v.category).sum ≤ 8)
    (hk : ∀ (x : Int32) (u : mm_M), Qz (.int x) u → mn u = mn μ + kz → mm_EV g (d + 1) y k n0 (pc + 3) L (.int x :: st) u Q) : mm_EV g (d + 1) y k n0 pc L st0 μ Q := by
  intro p e s m args below meth cc R Z cx hr H locs ls hH hS hl
  subst hst
  refine mm_size (fun hsz0 => ?_)
  have hsz := mm_sizeH hH hS cx.2.2.2.2.2.2.2.2.2.2.1 hn0 hsz0
  have hrm := mm_room hn0 hkz rfl
  have hcs := cx.2.2.2.2.2.2.2.2.2.1
  have hqc : mm_Qc g z.2.2.2 (mn μ + kz) Qz = va_Qi (fun x u => Qz (.int x) u ∧ mn u = mn μ + kz) (fun u t => mm_H g u t.heap) (mm_A g) := by
    obtain ⟨ty, h1, h2⟩ := hret
    rw [h1]
    cases ty <;> first | rfl | exact absurd rfl h2
  unfold mm_MV at hM
  rw [hqc] at hM
  have hw' : ((st.map (mm_e g)).map fun v => v.category).sum ≤ 8 := by
    rw [List.map_map]
    refine le_of_eq_of_le (congrArg List.sum (List.map_congr_left (fun v _ => mm_cat g v))) hw
  refine va_calli (S := mm_M) (A0 := mm_A g) (H0 := s.heap) (va_runV (As := av.map (mm_e g)) (rest := st.map (mm_e g)) (b := mg_w g) (C := RJ0) ⟨cx.1, cx.2.1, cx.2.2.1, cx.2.2.2.1, cx.2.2.2.2.1⟩ hM ⟨mm_callB cx hl0.2.1, cx.2.2.2.2.1 _ hl0.2.2.1, cx.2.2.2.2.1 _ hl0.2.2.2⟩ ⟨mm_blind g _ μ, vk_recv cx.2.2.2.2.2.2.1.2.2.2.1 (by decide : 0 < 1) hS, mm_preU cx hH hS hsz (.retAddr 1 :: av)⟩ rfl (by simp) hl.1 (by simp [mm_e]) (lv_room hw') hd ⟨Nat.le_trans hrm.2.2.1 hcs.1, Nat.le_trans hrm.2.2.2 hcs.2⟩) hS (fun q _ h => h) (fun q h => h) (fun x u t H1 locs1 ht hvm hp hB hz hk1 hS1 => ?_)
  rw [hrm.1, hrm.2.1]
  have := hk x u hp.1 hp.2 p e s m args below meth cc R Z cx hr H1 locs1 ls (by rw [← ht]; exact hB) hS1 hl
  rw [hp.2] at this
  exact this
theorem s_callW {g : mm_G} {d : Nat} {y : mm_Y} {k n0 pc : Nat} {L : mm_L} {st : List Value} {σ τ : mm_S} {v : Value} {z : mm_Y} {idx : Nat} (av : List Value) {st0 : List Value} {x : Int32} (hd : decode y.2.1 pc = .ok (.invokevirtual idx, 3)) (hl0 : mm_mlW y.1.cls idx z av.length) (hret : ∃ ty, z.2.2.2 = some ty ∧ ty ≠ .long) (hst : st0 = av.reverse ++ .retAddr 1 :: st) (hM : SM g d z (.retAddr 1 :: av) σ (.int x) σ) (hw : (st.map fun v => v.category).sum ≤ 8) (hk : SVk k n0 g (d + 1) y (pc + 3) L (.int x :: st) σ v τ) (hc : n0 ≤ 240 ∧ 240 ≤ n0 + k := by decide) : SVk k n0 g (d + 1) y pc L st0 σ v τ := by
  refine e_callW (kz := 0) hd hl0 hret hst hM hc.1 hc.2 hw (fun x' u hq _ => ?_)
  obtain ⟨h1, rfl⟩ := hq
  cases h1
  exact hk
abbrev yy_J0_coder_7d493 : mm_Y := (yJ0_coder_7d493, cJ0_coder_7d493, 1, (some .byte))
theorem dJ0_coder_7d493_0 : decode cJ0_coder_7d493 0 = .ok (.getstatic 38, 3) := by decide +kernel
theorem dJ0_coder_7d493_3 : decode cJ0_coder_7d493 3 = .ok (.ifCond .eq 10, 3) := by decide +kernel
theorem dJ0_coder_7d493_6 : decode cJ0_coder_7d493 6 = .ok (.aload_n 0, 1) := by decide +kernel
theorem dJ0_coder_7d493_7 : decode cJ0_coder_7d493 7 = .ok (.getfield 15, 3) := by decide +kernel
theorem dJ0_coder_7d493_10 : decode cJ0_coder_7d493 10 = .ok (.goto 4, 3) := by decide +kernel
theorem dJ0_coder_7d493_13 : decode cJ0_coder_7d493 13 = .ok (.iconst 1, 1) := by decide +kernel
theorem dJ0_coder_7d493_14 : decode cJ0_coder_7d493 14 = .ok (.ireturn, 1) := by decide +kernel
abbrev yy_J0_length_8abf5 : mm_Y := (yJ0_length_8abf5, cJ0_length_8abf5, 1, (some .int))
theorem dJ0_length_8abf5_0 : decode cJ0_length_8abf5 0 = .ok (.aload_n 0, 1) := by decide +kernel
theorem dJ0_length_8abf5_1 : decode cJ0_length_8abf5 1 = .ok (.getfield 9, 3) := by decide +kernel
theorem dJ0_length_8abf5_4 : decode cJ0_length_8abf5 4 = .ok (.arraylength, 1) := by decide +kernel
theorem dJ0_length_8abf5_5 : decode cJ0_length_8abf5 5 = .ok (.aload_n 0, 1) := by decide +kernel
theorem dJ0_length_8abf5_6 : decode cJ0_length_8abf5 6 = .ok (.invokevirtual 335, 3) := by decide +kernel
theorem dJ0_length_8abf5_9 : decode cJ0_length_8abf5 9 = .ok (.ishr, 1) := by decide +kernel
theorem dJ0_length_8abf5_10 : decode cJ0_length_8abf5 10 = .ok (.ireturn, 1) := by decide +kernel
abbrev yy_J0_isLatin1_aae02 : mm_Y := (yJ0_isLatin1_aae02, cJ0_isLatin1_aae02, 1, (some .boolean))
theorem dJ0_isLatin1_aae02_0 : decode cJ0_isLatin1_aae02 0 = .ok (.getstatic 38, 3) := by decide +kernel
theorem dJ0_isLatin1_aae02_3 : decode cJ0_isLatin1_aae02 3 = .ok (.ifCond .eq 14, 3) := by decide +kernel
theorem dJ0_isLatin1_aae02_6 : decode cJ0_isLatin1_aae02 6 = .ok (.aload_n 0, 1) := by decide +kernel
theorem dJ0_isLatin1_aae02_7 : decode cJ0_isLatin1_aae02 7 = .ok (.getfield 15, 3) := by decide +kernel
theorem dJ0_isLatin1_aae02_10 : decode cJ0_isLatin1_aae02 10 = .ok (.ifCond .ne 7, 3) := by decide +kernel
theorem dJ0_isLatin1_aae02_13 : decode cJ0_isLatin1_aae02 13 = .ok (.iconst 1, 1) := by decide +kernel
theorem dJ0_isLatin1_aae02_14 : decode cJ0_isLatin1_aae02 14 = .ok (.goto 4, 3) := by decide +kernel
theorem dJ0_isLatin1_aae02_17 : decode cJ0_isLatin1_aae02 17 = .ok (.iconst 0, 1) := by decide +kernel
theorem dJ0_isLatin1_aae02_18 : decode cJ0_isLatin1_aae02 18 = .ok (.ireturn, 1) := by decide +kernel
abbrev yy_J3_checkIndex_8e157 : mm_Y := (yJ3_checkIndex_8e157, cJ3_checkIndex_8e157, 3, (some .int))
theorem dJ3_checkIndex_8e157_0 : decode cJ3_checkIndex_8e157 0 = .ok (.iload_n 0, 1) := by decide +kernel
theorem dJ3_checkIndex_8e157_1 : decode cJ3_checkIndex_8e157 1 = .ok (.ifCond .lt 8, 3) := by decide +kernel
theorem dJ3_checkIndex_8e157_4 : decode cJ3_checkIndex_8e157 4 = .ok (.iload_n 0, 1) := by decide +kernel
theorem dJ3_checkIndex_8e157_5 : decode cJ3_checkIndex_8e157 5 = .ok (.iload_n 1, 1) := by decide +kernel
theorem dJ3_checkIndex_8e157_6 : decode cJ3_checkIndex_8e157 6 = .ok (.if_icmp .lt 10, 3) := by decide +kernel
theorem dJ3_checkIndex_8e157_9 : decode cJ3_checkIndex_8e157 9 = .ok (.aload_n 2, 1) := by decide +kernel
theorem dJ3_checkIndex_8e157_10 : decode cJ3_checkIndex_8e157 10 = .ok (.iload_n 0, 1) := by decide +kernel
theorem dJ3_checkIndex_8e157_11 : decode cJ3_checkIndex_8e157 11 = .ok (.iload_n 1, 1) := by decide +kernel
theorem dJ3_checkIndex_8e157_12 : decode cJ3_checkIndex_8e157 12 = .ok (.invokestatic 95, 3) := by decide +kernel
theorem dJ3_checkIndex_8e157_15 : decode cJ3_checkIndex_8e157 15 = .ok (.athrow, 1) := by decide +kernel
theorem dJ3_checkIndex_8e157_16 : decode cJ3_checkIndex_8e157 16 = .ok (.iload_n 0, 1) := by decide +kernel
theorem dJ3_checkIndex_8e157_17 : decode cJ3_checkIndex_8e157 17 = .ok (.ireturn, 1) := by decide +kernel
abbrev yy_J0_checkIndex_df160 : mm_Y := (yJ0_checkIndex_df160, cJ0_checkIndex_df160, 2, none)
theorem dJ0_checkIndex_df160_0 : decode cJ0_checkIndex_df160 0 = .ok (.iload_n 0, 1) := by decide +kernel
theorem dJ0_checkIndex_df160_1 : decode cJ0_checkIndex_df160 1 = .ok (.iload_n 1, 1) := by decide +kernel
theorem dJ0_checkIndex_df160_2 : decode cJ0_checkIndex_df160 2 = .ok (.getstatic 1053, 3) := by decide +kernel
theorem dJ0_checkIndex_df160_5 : decode cJ0_checkIndex_df160 5 = .ok (.invokestatic 1059, 3) := by decide +kernel
theorem dJ0_checkIndex_df160_8 : decode cJ0_checkIndex_df160 8 = .ok (.pop, 1) := by decide +kernel
theorem dJ0_checkIndex_df160_9 : decode cJ0_checkIndex_df160 9 = .ok (.return_, 1) := by decide +kernel
abbrev yy_J1_charAt_3b067 : mm_Y := (yJ1_charAt_3b067, cJ1_charAt_3b067, 2, (some .char))
theorem dJ1_charAt_3b067_0 : decode cJ1_charAt_3b067 0 = .ok (.iload_n 1, 1) := by decide +kernel
theorem dJ1_charAt_3b067_1 : decode cJ1_charAt_3b067 1 = .ok (.aload_n 0, 1) := by decide +kernel
theorem dJ1_charAt_3b067_2 : decode cJ1_charAt_3b067 2 = .ok (.arraylength, 1) := by decide +kernel
theorem dJ1_charAt_3b067_3 : decode cJ1_charAt_3b067 3 = .ok (.invokestatic 9, 3) := by decide +kernel
theorem dJ1_charAt_3b067_6 : decode cJ1_charAt_3b067 6 = .ok (.aload_n 0, 1) := by decide +kernel
theorem dJ1_charAt_3b067_7 : decode cJ1_charAt_3b067 7 = .ok (.iload_n 1, 1) := by decide +kernel
theorem dJ1_charAt_3b067_8 : decode cJ1_charAt_3b067 8 = .ok (.baload, 1) := by decide +kernel
theorem dJ1_charAt_3b067_9 : decode cJ1_charAt_3b067 9 = .ok (.sipush 255, 3) := by decide +kernel
theorem dJ1_charAt_3b067_12 : decode cJ1_charAt_3b067 12 = .ok (.iand, 1) := by decide +kernel
theorem dJ1_charAt_3b067_13 : decode cJ1_charAt_3b067 13 = .ok (.i2c, 1) := by decide +kernel
theorem dJ1_charAt_3b067_14 : decode cJ1_charAt_3b067 14 = .ok (.ireturn, 1) := by decide +kernel
abbrev yy_J0_charAt_5068e : mm_Y := (yJ0_charAt_5068e, cJ0_charAt_5068e, 2, (some .char))
theorem dJ0_charAt_5068e_0 : decode cJ0_charAt_5068e 0 = .ok (.aload_n 0, 1) := by decide +kernel
theorem dJ0_charAt_5068e_1 : decode cJ0_charAt_5068e 1 = .ok (.invokevirtual 492, 3) := by decide +kernel
theorem dJ0_charAt_5068e_4 : decode cJ0_charAt_5068e 4 = .ok (.ifCond .eq 12, 3) := by decide +kernel
theorem dJ0_charAt_5068e_7 : decode cJ0_charAt_5068e 7 = .ok (.aload_n 0, 1) := by decide +kernel
theorem dJ0_charAt_5068e_8 : decode cJ0_charAt_5068e 8 = .ok (.getfield 9, 3) := by decide +kernel
theorem dJ0_charAt_5068e_11 : decode cJ0_charAt_5068e 11 = .ok (.iload_n 1, 1) := by decide +kernel
theorem dJ0_charAt_5068e_12 : decode cJ0_charAt_5068e 12 = .ok (.invokestatic 495, 3) := by decide +kernel
theorem dJ0_charAt_5068e_15 : decode cJ0_charAt_5068e 15 = .ok (.ireturn, 1) := by decide +kernel
theorem dJ0_charAt_5068e_16 : decode cJ0_charAt_5068e 16 = .ok (.aload_n 0, 1) := by decide +kernel
theorem dJ0_charAt_5068e_17 : decode cJ0_charAt_5068e 17 = .ok (.getfield 9, 3) := by decide +kernel
theorem dJ0_charAt_5068e_20 : decode cJ0_charAt_5068e 20 = .ok (.iload_n 1, 1) := by decide +kernel
theorem dJ0_charAt_5068e_21 : decode cJ0_charAt_5068e 21 = .ok (.invokestatic 498, 3) := by decide +kernel
theorem dJ0_charAt_5068e_24 : decode cJ0_charAt_5068e 24 = .ok (.ireturn, 1) := by decide +kernel
theorem mw_RJ0_335 : mm_mlW RJ0 335 yy_J0_coder_7d493 0 := ⟨rfl, ⟨(tw2 165 rfl rfl), (tw1 13 rfl rfl), (tw2 168 rfl rfl), ⟨by decide +kernel, by decide +kernel, by decide +kernel⟩, by decide⟩, (tw2 166 rfl rfl), (tw2 167 rfl rfl)⟩
theorem mw_RJ0_1059 : mm_mlS RJ0 1059 yy_J3_checkIndex_8e157 3 := ⟨⟨(tw2 187 rfl rfl), (tw1 15 rfl rfl), (tw2 189 rfl rfl), ⟨by decide +kernel, by decide +kernel, by decide +kernel⟩, by decide⟩, (tw2 188 rfl rfl)⟩
theorem mw_RJ1_9 : mm_mlS RJ1 9 yy_J0_checkIndex_df160 2 := ⟨⟨(tw2 182 rfl rfl), (tw1 13 rfl rfl), (tw2 184 rfl rfl), ⟨by decide +kernel, by decide +kernel, by decide +kernel⟩, by decide⟩, (tw2 183 rfl rfl)⟩
theorem mw_RJ2_414 : mm_mlS RJ2 414 yy_J0_checkIndex_df160 2 := ⟨⟨(tw2 199 rfl rfl), (tw1 13 rfl rfl), (tw2 184 rfl rfl), ⟨by decide +kernel, by decide +kernel, by decide +kernel⟩, by decide⟩, (tw2 183 rfl rfl)⟩
theorem mw_RJ0_492 : mm_mlW RJ0 492 yy_J0_isLatin1_aae02 0 := ⟨rfl, ⟨(tw2 175 rfl rfl), (tw1 13 rfl rfl), (tw2 178 rfl rfl), ⟨by decide +kernel, by decide +kernel, by decide +kernel⟩, by decide⟩, (tw2 176 rfl rfl), (tw2 177 rfl rfl)⟩
theorem mw_RJ0_495 : mm_mlS RJ0 495 yy_J1_charAt_3b067 2 := ⟨⟨(tw2 179 rfl rfl), (tw1 14 rfl rfl), (tw2 181 rfl rfl), ⟨by decide +kernel, by decide +kernel, by decide +kernel⟩, by decide⟩, (tw2 180 rfl rfl)⟩
theorem mw_RX4_95 : mm_mlW RX4 95 yy_J0_length_8abf5 0 := ⟨rfl, ⟨(tw2 161 rfl rfl), (tw1 13 rfl rfl), (tw2 164 rfl rfl), ⟨by decide +kernel, by decide +kernel, by decide +kernel⟩, by decide⟩, (tw2 162 rfl rfl), (tw2 163 rfl rfl)⟩
theorem mw_RX4_100 : mm_mlW RX4 100 yy_J0_charAt_5068e 1 := ⟨rfl, ⟨(tw2 171 rfl rfl), (tw1 13 rfl rfl), (tw2 174 rfl rfl), ⟨by decide +kernel, by decide +kernel, by decide +kernel⟩, by decide⟩, (tw2 172 rfl rfl), (tw2 173 rfl rfl)⟩
def wch (k : Int32) : Int32 := ((mm_by.getD k.toNatClampNeg 0 &&& 255).toUInt32 % 65536).toInt32
theorem wch_nar {k : Int32} (h : vp_in k 122) : narrow .char (.int (wch k)) = .int (wch k) := by
  have h1 : ∀ j, j < 122 → narrow .char (.int ((mm_by.getD j 0 &&& 255).toUInt32 % 65536).toInt32) = .int ((mm_by.getD j 0 &&& 255).toUInt32 % 65536).toInt32 := by decide +kernel
  exact h1 _ (vin_lt h)
section SST
variable {g : mm_G} {σ : mm_S}
theorem v_J0_coder (d : Nat) : SM g (d + 0) yy_J0_coder_7d493 [.retAddr 1] σ (.int 0) σ := by
  refine s_of (by decide) (Nat.le_of_ble_eq_true rfl) (L := [(0, .retAddr 1)]) rfl ?_
  refine e_gsC dJ0_coder_7d493_0 (tw2 169 rfl rfl) ?_
  refine e_if_eq 13 dJ0_coder_7d493_3 (by decide) (fun c => absurd c (by decide)) (fun _ => ?_)
  refine e_aload_n1 0 dJ0_coder_7d493_6 rfl rfl ?_
  refine e_strcod dJ0_coder_7d493_7 (tw7 55 rfl rfl) ?_
  refine e_goto 14 dJ0_coder_7d493_10 (by decide) ?_
  exact s_ret rfl ⟨_, rfl, rfl⟩ dJ0_coder_7d493_14
theorem v_J0_length (d : Nat) : SM g (d + 1) yy_J0_length_8abf5 [.retAddr 1] σ (.int 122) σ := by
  refine s_of (by decide) (Nat.le_of_ble_eq_true rfl) (L := [(0, .retAddr 1)]) rfl ?_
  refine e_aload_n1 0 dJ0_length_8abf5_0 rfl rfl ?_
  refine e_strval dJ0_length_8abf5_1 (tw7 54 rfl rfl) ?_
  refine e_lenB dJ0_length_8abf5_4 ?_
  refine e_aload_n1 0 dJ0_length_8abf5_5 rfl rfl ?_
  refine s_callW [] dJ0_length_8abf5_6 mw_RJ0_335 ⟨_, rfl, by decide⟩ rfl (v_J0_coder d) (Nat.le_of_ble_eq_true rfl) ?_
  refine e_ishr dJ0_length_8abf5_9 ?_
  refine s_eqi (x := 122) (by decide) ?_
  exact s_ret rfl ⟨_, rfl, rfl⟩ dJ0_length_8abf5_10
theorem v_J0_isLatin1 (d : Nat) : SM g (d + 0) yy_J0_isLatin1_aae02 [.retAddr 1] σ (.int 1) σ := by
  refine s_of (by decide) (Nat.le_of_ble_eq_true rfl) (L := [(0, .retAddr 1)]) rfl ?_
  refine e_gsC dJ0_isLatin1_aae02_0 (tw2 169 rfl rfl) ?_
  refine e_if_eq 17 dJ0_isLatin1_aae02_3 (by decide) (fun c => absurd c (by decide)) (fun _ => ?_)
  refine e_aload_n1 0 dJ0_isLatin1_aae02_6 rfl rfl ?_
  refine e_strcod dJ0_isLatin1_aae02_7 (tw7 55 rfl rfl) ?_
  refine e_if_ne 17 dJ0_isLatin1_aae02_10 (by decide) (fun c => absurd rfl c) (fun _ => ?_)
  refine e_iconst (v := (1 : Int32)) dJ0_isLatin1_aae02_13 (by decide) ?_
  refine e_goto 18 dJ0_isLatin1_aae02_14 (by decide) ?_
  exact s_ret rfl ⟨_, rfl, nb1 (Or.inr rfl)⟩ dJ0_isLatin1_aae02_18
theorem v_J3_check (d : Nat) {k : Int32} (h : vp_in k 122) : SM g (d + 0) yy_J3_checkIndex_8e157 [.int k, .int 122, .retAddr 3] σ (.int k) σ := by
  have h0 : ¬ k < 0 := fun q => h (Or.inl q)
  have h1 : k < 122 := by
    have := vin_lt h
    rw [Int32.lt_iff_toInt_lt] at h0 ⊢
    have e1 : (0 : Int32).toInt = 0 := by decide
    have e2 : (122 : Int32).toInt = 122 := by decide
    rw [e1] at h0
    rw [e2]
    have e3 : k.toNatClampNeg = k.toInt.toNat := rfl
    omega
  refine s_of (by decide) (by rw [mm_lgl]; exact Nat.le_of_ble_eq_true rfl) (L := [(0, .int k), (1, .int 122), (2, .retAddr 3)]) rfl ?_
  refine e_iload_n 0 dJ3_checkIndex_8e157_0 rfl rfl ?_
  refine e_if_lt 9 dJ3_checkIndex_8e157_1 (by decide) (fun c => absurd c h0) (fun _ => ?_)
  refine e_iload_n 0 dJ3_checkIndex_8e157_4 rfl rfl ?_
  refine e_iload_n 1 dJ3_checkIndex_8e157_5 rfl rfl ?_
  refine e_icmp_lt 16 dJ3_checkIndex_8e157_6 (by decide) (fun _ => ?_) (fun c => absurd h1 c)
  refine e_iload_n 0 dJ3_checkIndex_8e157_16 rfl rfl ?_
  exact s_ret rfl ⟨_, rfl, rfl⟩ dJ3_checkIndex_8e157_17
theorem v_J0_check (d : Nat) {k : Int32} (h : vp_in k 122) : SM g (d + 1) yy_J0_checkIndex_df160 [.int k, .int 122] σ .null σ := by
  refine s_of (by decide) (Nat.le_of_ble_eq_true rfl) (L := [(0, .int k), (1, .int 122)]) rfl ?_
  refine e_iload_n 0 dJ0_checkIndex_df160_0 rfl rfl ?_
  refine e_iload_n 1 dJ0_checkIndex_df160_1 rfl rfl ?_
  refine e_gsF dJ0_checkIndex_df160_2 (tw2 185 rfl rfl) ?_
  refine s_callSi [.int k, .int 122, .retAddr 3] dJ0_checkIndex_df160_5 mw_RJ0_1059 ⟨_, rfl, by decide⟩ rfl (v_J3_check d h) (Nat.le_of_ble_eq_true rfl) ?_
  refine e_pop dJ0_checkIndex_df160_8 rfl ?_
  exact s_ret rfl rfl dJ0_checkIndex_df160_9
theorem v_J1_charAt (d : Nat) {k : Int32} (h : vp_in k 122) : SM g (d + 2) yy_J1_charAt_3b067 [.retAddr 2, .int k] σ (.int (wch k)) σ := by
  refine s_of (by decide) (Nat.le_of_ble_eq_true rfl) (L := [(0, .retAddr 2), (1, .int k)]) rfl ?_
  refine e_iload_n 1 dJ1_charAt_3b067_0 rfl rfl ?_
  refine e_aload_n2 0 dJ1_charAt_3b067_1 rfl rfl ?_
  refine e_lenB dJ1_charAt_3b067_2 ?_
  refine s_callSv [.int k, .int 122] dJ1_charAt_3b067_3 mw_RJ1_9 rfl rfl (v_J0_check d h) (Nat.le_of_ble_eq_true rfl) ?_
  refine e_aload_n2 0 dJ1_charAt_3b067_6 rfl rfl ?_
  refine e_iload_n 1 dJ1_charAt_3b067_7 rfl rfl ?_
  refine e_bldB dJ1_charAt_3b067_8 h ?_
  refine e_sipush (v := (255 : Int32)) dJ1_charAt_3b067_9 (by decide) ?_
  refine e_iand dJ1_charAt_3b067_12 ?_
  refine e_i2c dJ1_charAt_3b067_13 ?_
  exact s_ret rfl ⟨_, rfl, wch_nar h⟩ dJ1_charAt_3b067_14
theorem v_J0_charAt (d : Nat) {k : Int32} (h : vp_in k 122) : SM g (d + 3) yy_J0_charAt_5068e [.retAddr 1, .int k] σ (.int (wch k)) σ := by
  refine s_of (by decide) (Nat.le_of_ble_eq_true rfl) (L := [(0, .retAddr 1), (1, .int k)]) rfl ?_
  refine e_aload_n1 0 dJ0_charAt_5068e_0 rfl rfl ?_
  refine s_callW [] dJ0_charAt_5068e_1 mw_RJ0_492 ⟨_, rfl, by decide⟩ rfl (v_J0_isLatin1 (d + 2)) (Nat.le_of_ble_eq_true rfl) ?_
  refine e_if_eq 16 dJ0_charAt_5068e_4 (by decide) (fun c => absurd c (by decide)) (fun _ => ?_)
  refine e_aload_n1 0 dJ0_charAt_5068e_7 rfl rfl ?_
  refine e_strval dJ0_charAt_5068e_8 (tw7 54 rfl rfl) ?_
  refine e_iload_n 1 dJ0_charAt_5068e_11 rfl rfl ?_
  refine s_callSi [.retAddr 2, .int k] dJ0_charAt_5068e_12 mw_RJ0_495 ⟨_, rfl, by decide⟩ rfl (v_J1_charAt d h) (Nat.le_of_ble_eq_true rfl) ?_
  exact s_ret rfl ⟨_, rfl, wch_nar h⟩ dJ0_charAt_5068e_15
end SST
