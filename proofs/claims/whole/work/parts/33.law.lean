section EVS
variable {g : mm_G} {d : Nat} {y : mm_Y} {k n0 pc : Nat} {L : mm_L} {st : List Value} {μ : mm_M} {Q : Value → mm_M → Prop}
theorem e_sld {j : Int32} (hd : decode y.2.1 pc = .ok (.iaload, 1)) (hin : vp_in j (mg_L g)) (hk : mm_EV g d y k n0 (pc + 1) L (.int (mg_xs g j.toNatClampNeg) :: st) μ Q) : mm_EV g d y k n0 pc L (.int j :: .retAddr 0 :: st) μ Q := by
  intro p e s m args below meth cc R Z cx hr H locs ls hH hS hl
  have hfa := cx.2.2.2.2.2.2.1
  have hsz := cx.2.2.2.2.2.2.2.2.2.2.1
  exact va_sld cx.1 cx.2.1 hfa.1 (by have := hfa.2.1; omega) (by unfold mm_A; have := hfa.2.1; omega) hS hin hd (hk p e s m args below meth cc R Z cx hr H locs ls hH hS hl)
theorem e_slen (hd : decode y.2.1 pc = .ok (.arraylength, 1)) (hk : mm_EV g d y k n0 (pc + 1) L (.int (Int32.ofNat (mg_L g)) :: st) μ Q) : mm_EV g d y k n0 pc L (.retAddr 0 :: st) μ Q := by
  intro p e s m args below meth cc R Z cx hr H locs ls hH hS hl
  have hfa := cx.2.2.2.2.2.2.1
  have hsz := cx.2.2.2.2.2.2.2.2.2.2.1
  exact va_slen cx.1 cx.2.1 hfa.1 (by have := hfa.2.1; omega) (by unfold mm_A; have := hfa.2.1; omega) hS hd (hk p e s m args below meth cc R Z cx hr H locs ls hH hS hl)
end EVS
abbrev yy_L_law : mm_Y := (yL_law, cL_law, 4, (some .boolean))
theorem ml_RL_102 : mm_mlV RL 102 (yX10_out, cX10_out, 7, (some .int)) 10 2 := ⟨by decide, rfl, ⟨(tw6 188 rfl rfl), (tw1 12 rfl rfl), (tw6 191 rfl rfl), ⟨by decide +kernel, by decide +kernel, by decide +kernel⟩, by decide⟩, (tw6 189 rfl rfl), (tw6 190 rfl rfl)⟩
theorem ml_RL_103 : mm_mlV RL 103 (yX9_sleeps, cX9_sleeps, 7, (some .int)) 9 2 := ⟨by decide, rfl, ⟨(tw4 33 rfl rfl), (tw1 1 rfl rfl), (tw4 36 rfl rfl), ⟨by decide +kernel, by decide +kernel, by decide +kernel⟩, by decide⟩, (tw4 34 rfl rfl), (tw4 35 rfl rfl)⟩
theorem ml_RL_106 : mm_mlV RL 106 (yX10_sleeps, cX10_sleeps, 7, (some .int)) 10 2 := ⟨by decide, rfl, ⟨(tw6 200 rfl rfl), (tw1 12 rfl rfl), (tw6 203 rfl rfl), ⟨by decide +kernel, by decide +kernel, by decide +kernel⟩, by decide⟩, (tw6 201 rfl rfl), (tw6 202 rfl rfl)⟩
theorem ml_RL_107 : mm_mlV RL 107 (yX9_ring, cX9_ring, 4, (some .int)) 9 1 := ⟨by decide, rfl, ⟨(tw4 38 rfl rfl), (tw1 1 rfl rfl), (tw4 41 rfl rfl), ⟨by decide +kernel, by decide +kernel, by decide +kernel⟩, by decide⟩, (tw4 39 rfl rfl), (tw4 40 rfl rfl)⟩
theorem ml_RL_110 : mm_mlV RL 110 (yX10_ring, cX10_ring, 4, (some .int)) 10 1 := ⟨by decide, rfl, ⟨(tw6 204 rfl rfl), (tw1 12 rfl rfl), (tw6 207 rfl rfl), ⟨by decide +kernel, by decide +kernel, by decide +kernel⟩, by decide⟩, (tw6 205 rfl rfl), (tw6 206 rfl rfl)⟩
theorem ml_RL_111 : mm_mlV RL 111 (yX9_pennies, cX9_pennies, 10, (some .int)) 9 2 := ⟨by decide, rfl, ⟨(tw4 46 rfl rfl), (tw1 1 rfl rfl), (tw4 49 rfl rfl), ⟨by decide +kernel, by decide +kernel, by decide +kernel⟩, by decide⟩, (tw4 47 rfl rfl), (tw4 48 rfl rfl)⟩
theorem ml_RL_114 : mm_mlV RL 114 (yX10_pennies, cX10_pennies, 9, (some .int)) 10 2 := ⟨by decide, rfl, ⟨(tw6 212 rfl rfl), (tw1 12 rfl rfl), (tw6 215 rfl rfl), ⟨by decide +kernel, by decide +kernel, by decide +kernel⟩, by decide⟩, (tw6 213 rfl rfl), (tw6 214 rfl rfl)⟩
theorem ml_RL_115 : mm_mlV RL 115 (yX9_rests, cX9_rests, 10, (some .int)) 9 4 := ⟨by decide, rfl, ⟨(tw4 50 rfl rfl), (tw1 1 rfl rfl), (tw4 53 rfl rfl), ⟨by decide +kernel, by decide +kernel, by decide +kernel⟩, by decide⟩, (tw4 51 rfl rfl), (tw4 52 rfl rfl)⟩
theorem ml_RL_118 : mm_mlV RL 118 (yX10_rests, cX10_rests, 10, (some .int)) 10 4 := ⟨by decide, rfl, ⟨(tw6 217 rfl rfl), (tw1 12 rfl rfl), (tw6 220 rfl rfl), ⟨by decide +kernel, by decide +kernel, by decide +kernel⟩, by decide⟩, (tw6 218 rfl rfl), (tw6 219 rfl rfl)⟩
theorem ml_RL_119 : mm_mlV RL 119 (yX9_stays, cX9_stays, 4, (some .int)) 9 1 := ⟨by decide, rfl, ⟨(tw4 65 rfl rfl), (tw1 1 rfl rfl), (tw4 68 rfl rfl), ⟨by decide +kernel, by decide +kernel, by decide +kernel⟩, by decide⟩, (tw4 66 rfl rfl), (tw4 67 rfl rfl)⟩
theorem ml_RL_122 : mm_mlV RL 122 (yX10_stays, cX10_stays, 3, (some .int)) 10 1 := ⟨by decide, rfl, ⟨(tw6 229 rfl rfl), (tw1 12 rfl rfl), (tw6 232 rfl rfl), ⟨by decide +kernel, by decide +kernel, by decide +kernel⟩, by decide⟩, (tw6 230 rfl rfl), (tw6 231 rfl rfl)⟩
theorem ml_RL_123 : mm_mlV RL 123 (yX9_note, cX9_note, 4, (some .int)) 9 3 := ⟨by decide, rfl, ⟨(tw4 69 rfl rfl), (tw1 1 rfl rfl), (tw4 72 rfl rfl), ⟨by decide +kernel, by decide +kernel, by decide +kernel⟩, by decide⟩, (tw4 70 rfl rfl), (tw4 71 rfl rfl)⟩
theorem ml_RL_126 : mm_mlV RL 126 (yX10_note, cX10_note, 5, (some .int)) 10 3 := ⟨by decide, rfl, ⟨(tw6 233 rfl rfl), (tw1 12 rfl rfl), (tw6 236 rfl rfl), ⟨by decide +kernel, by decide +kernel, by decide +kernel⟩, by decide⟩, (tw6 234 rfl rfl), (tw6 235 rfl rfl)⟩
theorem ml_RL_127 : mm_mlV RL 127 (yX9_ruled, cX9_ruled, 3, (some .int)) 9 1 := ⟨by decide, rfl, ⟨(tw4 77 rfl rfl), (tw1 1 rfl rfl), (tw4 80 rfl rfl), ⟨by decide +kernel, by decide +kernel, by decide +kernel⟩, by decide⟩, (tw4 78 rfl rfl), (tw4 79 rfl rfl)⟩
theorem ml_RL_13 : mm_mlV RL 13 (yX9_feed, cX9_feed, 6, (some .int)) 9 5 := ⟨by decide, rfl, ⟨(tw2 115 rfl rfl), (tw1 1 rfl rfl), (tw2 118 rfl rfl), ⟨by decide +kernel, by decide +kernel, by decide +kernel⟩, by decide⟩, (tw2 116 rfl rfl), (tw2 117 rfl rfl)⟩
theorem ml_RL_130 : mm_mlV RL 130 (yX10_ruled, cX10_ruled, 5, (some .int)) 10 1 := ⟨by decide, rfl, ⟨(tw6 237 rfl rfl), (tw1 12 rfl rfl), (tw7 0 rfl rfl), ⟨by decide +kernel, by decide +kernel, by decide +kernel⟩, by decide⟩, (tw6 238 rfl rfl), (tw6 239 rfl rfl)⟩
theorem ml_RL_131 : mm_mlV RL 131 (yX9_look, cX9_look, 7, (some .int)) 9 1 := ⟨by decide, rfl, ⟨(tw4 99 rfl rfl), (tw1 1 rfl rfl), (tw4 102 rfl rfl), ⟨by decide +kernel, by decide +kernel, by decide +kernel⟩, by decide⟩, (tw4 100 rfl rfl), (tw4 101 rfl rfl)⟩
theorem ml_RL_134 : mm_mlV RL 134 (yX10_look, cX10_look, 4, (some .int)) 10 1 := ⟨by decide, rfl, ⟨(tw7 12 rfl rfl), (tw1 12 rfl rfl), (tw7 15 rfl rfl), ⟨by decide +kernel, by decide +kernel, by decide +kernel⟩, by decide⟩, (tw7 13 rfl rfl), (tw7 14 rfl rfl)⟩
theorem ml_RL_135 : mm_mlV RL 135 (yX9_seed, cX9_seed, 3, (some .int)) 9 1 := ⟨by decide, rfl, ⟨(tw4 107 rfl rfl), (tw1 1 rfl rfl), (tw4 110 rfl rfl), ⟨by decide +kernel, by decide +kernel, by decide +kernel⟩, by decide⟩, (tw4 108 rfl rfl), (tw4 109 rfl rfl)⟩
theorem ml_RL_138 : mm_mlV RL 138 (yX10_seed, cX10_seed, 3, (some .int)) 10 1 := ⟨by decide, rfl, ⟨(tw7 20 rfl rfl), (tw1 12 rfl rfl), (tw7 23 rfl rfl), ⟨by decide +kernel, by decide +kernel, by decide +kernel⟩, by decide⟩, (tw7 21 rfl rfl), (tw7 22 rfl rfl)⟩
theorem ml_RL_139 : mm_mlV RL 139 (yX9_strangers, cX9_strangers, 9, (some .int)) 9 4 := ⟨by decide, rfl, ⟨(tw4 111 rfl rfl), (tw1 1 rfl rfl), (tw4 114 rfl rfl), ⟨by decide +kernel, by decide +kernel, by decide +kernel⟩, by decide⟩, (tw4 112 rfl rfl), (tw4 113 rfl rfl)⟩
theorem ml_RL_142 : mm_mlV RL 142 (yX10_strangers, cX10_strangers, 10, (some .int)) 10 4 := ⟨by decide, rfl, ⟨(tw7 24 rfl rfl), (tw1 12 rfl rfl), (tw7 27 rfl rfl), ⟨by decide +kernel, by decide +kernel, by decide +kernel⟩, by decide⟩, (tw7 25 rfl rfl), (tw7 26 rfl rfl)⟩
theorem ml_RL_143 : mm_mlV RL 143 (yX9_count, cX9_count, 2, (some .int)) 9 1 := ⟨by decide, rfl, ⟨(tw3 97 rfl rfl), (tw1 1 rfl rfl), (tw3 100 rfl rfl), ⟨by decide +kernel, by decide +kernel, by decide +kernel⟩, by decide⟩, (tw3 98 rfl rfl), (tw3 99 rfl rfl)⟩
theorem ml_RL_146 : mm_mlV RL 146 (yX10_count, cX10_count, 2, (some .int)) 10 1 := ⟨by decide, rfl, ⟨(tw7 41 rfl rfl), (tw1 12 rfl rfl), (tw7 44 rfl rfl), ⟨by decide +kernel, by decide +kernel, by decide +kernel⟩, by decide⟩, (tw7 42 rfl rfl), (tw7 43 rfl rfl)⟩
theorem ml_RL_147 : mm_mlV RL 147 (yX9_image, cX9_image, 2, (some .int)) 9 1 := ⟨by decide, rfl, ⟨(tw4 127 rfl rfl), (tw1 1 rfl rfl), (tw4 130 rfl rfl), ⟨by decide +kernel, by decide +kernel, by decide +kernel⟩, by decide⟩, (tw4 128 rfl rfl), (tw4 129 rfl rfl)⟩
theorem ml_RL_150 : mm_mlV RL 150 (yX10_image, cX10_image, 3, (some .int)) 10 1 := ⟨by decide, rfl, ⟨(tw7 45 rfl rfl), (tw1 12 rfl rfl), (tw7 48 rfl rfl), ⟨by decide +kernel, by decide +kernel, by decide +kernel⟩, by decide⟩, (tw7 46 rfl rfl), (tw7 47 rfl rfl)⟩
theorem ml_RL_151 : mm_mlV RL 151 (yX9_back, cX9_back, 2, (some .int)) 9 1 := ⟨by decide, rfl, ⟨(tw4 142 rfl rfl), (tw1 1 rfl rfl), (tw4 145 rfl rfl), ⟨by decide +kernel, by decide +kernel, by decide +kernel⟩, by decide⟩, (tw4 143 rfl rfl), (tw4 144 rfl rfl)⟩
theorem ml_RL_154 : mm_mlV RL 154 (yX10_back, cX10_back, 3, (some .int)) 10 1 := ⟨by decide, rfl, ⟨(tw7 50 rfl rfl), (tw1 12 rfl rfl), (tw7 53 rfl rfl), ⟨by decide +kernel, by decide +kernel, by decide +kernel⟩, by decide⟩, (tw7 51 rfl rfl), (tw7 52 rfl rfl)⟩
theorem ml_RL_17 : mm_mlV RL 17 (yX10_feed, cX10_feed, 6, (some .int)) 10 5 := ⟨by decide, rfl, ⟨(tw5 51 rfl rfl), (tw1 12 rfl rfl), (tw5 54 rfl rfl), ⟨by decide +kernel, by decide +kernel, by decide +kernel⟩, by decide⟩, (tw5 52 rfl rfl), (tw5 53 rfl rfl)⟩
theorem ml_RL_18 : mm_mlV RL 18 (yX9_end, cX9_end, 2, (some .int)) 9 1 := ⟨by decide, rfl, ⟨(tw2 123 rfl rfl), (tw1 1 rfl rfl), (tw2 126 rfl rfl), ⟨by decide +kernel, by decide +kernel, by decide +kernel⟩, by decide⟩, (tw2 124 rfl rfl), (tw2 125 rfl rfl)⟩
theorem ml_RL_22 : mm_mlV RL 22 (yX10_end, cX10_end, 2, (some .int)) 10 1 := ⟨by decide, rfl, ⟨(tw5 59 rfl rfl), (tw1 12 rfl rfl), (tw5 62 rfl rfl), ⟨by decide +kernel, by decide +kernel, by decide +kernel⟩, by decide⟩, (tw5 60 rfl rfl), (tw5 61 rfl rfl)⟩
theorem ml_RL_23 : mm_mlV RL 23 (yX9_house, cX9_house, 1, (some .int)) 9 0 := ⟨by decide, rfl, ⟨(tw2 127 rfl rfl), (tw1 1 rfl rfl), (tw2 130 rfl rfl), ⟨by decide +kernel, by decide +kernel, by decide +kernel⟩, by decide⟩, (tw2 128 rfl rfl), (tw2 129 rfl rfl)⟩
theorem ml_RL_27 : mm_mlV RL 27 (yX10_house, cX10_house, 2, (some .int)) 10 0 := ⟨by decide, rfl, ⟨(tw5 218 rfl rfl), (tw1 12 rfl rfl), (tw5 221 rfl rfl), ⟨by decide +kernel, by decide +kernel, by decide +kernel⟩, by decide⟩, (tw5 219 rfl rfl), (tw5 220 rfl rfl)⟩
theorem ml_RL_28 : mm_mlV RL 28 (yX9_rule, cX9_rule, 1, (some .int)) 9 0 := ⟨by decide, rfl, ⟨(tw3 40 rfl rfl), (tw1 1 rfl rfl), (tw3 43 rfl rfl), ⟨by decide +kernel, by decide +kernel, by decide +kernel⟩, by decide⟩, (tw3 41 rfl rfl), (tw3 42 rfl rfl)⟩
theorem ml_RL_31 : mm_mlV RL 31 (yX10_rule, cX10_rule, 1, (some .int)) 10 0 := ⟨by decide, rfl, ⟨(tw5 63 rfl rfl), (tw1 12 rfl rfl), (tw5 66 rfl rfl), ⟨by decide +kernel, by decide +kernel, by decide +kernel⟩, by decide⟩, (tw5 64 rfl rfl), (tw5 65 rfl rfl)⟩
theorem ml_RL_32 : mm_mlV RL 32 (yX9_force, cX9_force, 3, (some .int)) 9 1 := ⟨by decide, rfl, ⟨(tw3 69 rfl rfl), (tw1 1 rfl rfl), (tw3 72 rfl rfl), ⟨by decide +kernel, by decide +kernel, by decide +kernel⟩, by decide⟩, (tw3 70 rfl rfl), (tw3 71 rfl rfl)⟩
theorem ml_RL_35 : mm_mlV RL 35 (yX10_force, cX10_force, 3, (some .int)) 10 1 := ⟨by decide, rfl, ⟨(tw5 226 rfl rfl), (tw1 12 rfl rfl), (tw5 229 rfl rfl), ⟨by decide +kernel, by decide +kernel, by decide +kernel⟩, by decide⟩, (tw5 227 rfl rfl), (tw5 228 rfl rfl)⟩
theorem ml_RL_36 : mm_mlV RL 36 (yX9_lodger, cX9_lodger, 4, (some .int)) 9 2 := ⟨by decide, rfl, ⟨(tw3 73 rfl rfl), (tw1 1 rfl rfl), (tw3 76 rfl rfl), ⟨by decide +kernel, by decide +kernel, by decide +kernel⟩, by decide⟩, (tw3 74 rfl rfl), (tw3 75 rfl rfl)⟩
theorem ml_RL_40 : mm_mlV RL 40 (yX10_lodger, cX10_lodger, 3, (some .int)) 10 2 := ⟨by decide, rfl, ⟨(tw5 234 rfl rfl), (tw1 12 rfl rfl), (tw5 237 rfl rfl), ⟨by decide +kernel, by decide +kernel, by decide +kernel⟩, by decide⟩, (tw5 235 rfl rfl), (tw5 236 rfl rfl)⟩
theorem ml_RL_41 : mm_mlV RL 41 (yX9_dear, cX9_dear, 3, (some .int)) 9 2 := ⟨by decide, rfl, ⟨(tw3 85 rfl rfl), (tw1 1 rfl rfl), (tw3 88 rfl rfl), ⟨by decide +kernel, by decide +kernel, by decide +kernel⟩, by decide⟩, (tw3 86 rfl rfl), (tw3 87 rfl rfl)⟩
theorem ml_RL_44 : mm_mlV RL 44 (yX10_dear, cX10_dear, 3, (some .int)) 10 2 := ⟨by decide, rfl, ⟨(tw6 3 rfl rfl), (tw1 12 rfl rfl), (tw6 6 rfl rfl), ⟨by decide +kernel, by decide +kernel, by decide +kernel⟩, by decide⟩, (tw6 4 rfl rfl), (tw6 5 rfl rfl)⟩
theorem ml_RL_45 : mm_mlV RL 45 (yX9_hour, cX9_hour, 1, (some .int)) 9 0 := ⟨by decide, rfl, ⟨(tw3 108 rfl rfl), (tw1 1 rfl rfl), (tw3 111 rfl rfl), ⟨by decide +kernel, by decide +kernel, by decide +kernel⟩, by decide⟩, (tw3 109 rfl rfl), (tw3 110 rfl rfl)⟩
theorem ml_RL_48 : mm_mlV RL 48 (yX10_hour, cX10_hour, 1, (some .int)) 10 0 := ⟨by decide, rfl, ⟨(tw6 15 rfl rfl), (tw1 12 rfl rfl), (tw6 18 rfl rfl), ⟨by decide +kernel, by decide +kernel, by decide +kernel⟩, by decide⟩, (tw6 16 rfl rfl), (tw6 17 rfl rfl)⟩
theorem ml_RL_49 : mm_mlV RL 49 (yX9_bid, cX9_bid, 4, (some .int)) 9 2 := ⟨by decide, rfl, ⟨(tw3 195 rfl rfl), (tw1 1 rfl rfl), (tw3 198 rfl rfl), ⟨by decide +kernel, by decide +kernel, by decide +kernel⟩, by decide⟩, (tw3 196 rfl rfl), (tw3 197 rfl rfl)⟩
theorem ml_RL_52 : mm_mlV RL 52 (yX10_bid, cX10_bid, 4, (some .int)) 10 2 := ⟨by decide, rfl, ⟨(tw6 108 rfl rfl), (tw1 12 rfl rfl), (tw6 111 rfl rfl), ⟨by decide +kernel, by decide +kernel, by decide +kernel⟩, by decide⟩, (tw6 109 rfl rfl), (tw6 110 rfl rfl)⟩
theorem ml_RL_53 : mm_mlV RL 53 (yX9_call, cX9_call, 2, (some .int)) 9 1 := ⟨by decide, rfl, ⟨(tw3 199 rfl rfl), (tw1 1 rfl rfl), (tw3 202 rfl rfl), ⟨by decide +kernel, by decide +kernel, by decide +kernel⟩, by decide⟩, (tw3 200 rfl rfl), (tw3 201 rfl rfl)⟩
theorem ml_RL_56 : mm_mlV RL 56 (yX10_call, cX10_call, 2, (some .int)) 10 1 := ⟨by decide, rfl, ⟨(tw6 112 rfl rfl), (tw1 12 rfl rfl), (tw6 115 rfl rfl), ⟨by decide +kernel, by decide +kernel, by decide +kernel⟩, by decide⟩, (tw6 113 rfl rfl), (tw6 114 rfl rfl)⟩
theorem ml_RL_57 : mm_mlV RL 57 (yX9_pay, cX9_pay, 4, (some .int)) 9 3 := ⟨by decide, rfl, ⟨(tw3 203 rfl rfl), (tw1 1 rfl rfl), (tw3 206 rfl rfl), ⟨by decide +kernel, by decide +kernel, by decide +kernel⟩, by decide⟩, (tw3 204 rfl rfl), (tw3 205 rfl rfl)⟩
theorem ml_RL_61 : mm_mlV RL 61 (yX10_pay, cX10_pay, 5, (some .int)) 10 3 := ⟨by decide, rfl, ⟨(tw6 116 rfl rfl), (tw1 12 rfl rfl), (tw6 119 rfl rfl), ⟨by decide +kernel, by decide +kernel, by decide +kernel⟩, by decide⟩, (tw6 117 rfl rfl), (tw6 118 rfl rfl)⟩
theorem ml_RL_62 : mm_mlV RL 62 (yX9_tire, cX9_tire, 3, (some .int)) 9 2 := ⟨by decide, rfl, ⟨(tw3 208 rfl rfl), (tw1 1 rfl rfl), (tw3 211 rfl rfl), ⟨by decide +kernel, by decide +kernel, by decide +kernel⟩, by decide⟩, (tw3 209 rfl rfl), (tw3 210 rfl rfl)⟩
theorem ml_RL_65 : mm_mlV RL 65 (yX10_tire, cX10_tire, 4, (some .int)) 10 2 := ⟨by decide, rfl, ⟨(tw6 121 rfl rfl), (tw1 12 rfl rfl), (tw6 124 rfl rfl), ⟨by decide +kernel, by decide +kernel, by decide +kernel⟩, by decide⟩, (tw6 122 rfl rfl), (tw6 123 rfl rfl)⟩
theorem ml_RL_66 : mm_mlV RL 66 (yX9_undo, cX9_undo, 1, (some .int)) 9 0 := ⟨by decide, rfl, ⟨(tw3 213 rfl rfl), (tw1 1 rfl rfl), (tw3 216 rfl rfl), ⟨by decide +kernel, by decide +kernel, by decide +kernel⟩, by decide⟩, (tw3 214 rfl rfl), (tw3 215 rfl rfl)⟩
theorem ml_RL_69 : mm_mlV RL 69 (yX10_undo, cX10_undo, 2, (some .int)) 10 0 := ⟨by decide, rfl, ⟨(tw6 11 rfl rfl), (tw1 12 rfl rfl), (tw6 14 rfl rfl), ⟨by decide +kernel, by decide +kernel, by decide +kernel⟩, by decide⟩, (tw6 12 rfl rfl), (tw6 13 rfl rfl)⟩
theorem ml_RL_70 : mm_mlV RL 70 (yX9_ahead, cX9_ahead, 4, (some .int)) 9 3 := ⟨by decide, rfl, ⟨(tw3 222 rfl rfl), (tw1 1 rfl rfl), (tw3 225 rfl rfl), ⟨by decide +kernel, by decide +kernel, by decide +kernel⟩, by decide⟩, (tw3 223 rfl rfl), (tw3 224 rfl rfl)⟩
theorem ml_RL_73 : mm_mlV RL 73 (yX10_ahead, cX10_ahead, 5, (some .int)) 10 3 := ⟨by decide, rfl, ⟨(tw6 126 rfl rfl), (tw1 12 rfl rfl), (tw6 129 rfl rfl), ⟨by decide +kernel, by decide +kernel, by decide +kernel⟩, by decide⟩, (tw6 127 rfl rfl), (tw6 128 rfl rfl)⟩
theorem ml_RL_74 : mm_mlV RL 74 (yX9_rested, cX9_rested, 3, (some .int)) 9 1 := ⟨by decide, rfl, ⟨(tw3 226 rfl rfl), (tw1 1 rfl rfl), (tw3 229 rfl rfl), ⟨by decide +kernel, by decide +kernel, by decide +kernel⟩, by decide⟩, (tw3 227 rfl rfl), (tw3 228 rfl rfl)⟩
theorem ml_RL_77 : mm_mlV RL 77 (yX10_rested, cX10_rested, 4, (some .int)) 10 1 := ⟨by decide, rfl, ⟨(tw6 148 rfl rfl), (tw1 12 rfl rfl), (tw6 151 rfl rfl), ⟨by decide +kernel, by decide +kernel, by decide +kernel⟩, by decide⟩, (tw6 149 rfl rfl), (tw6 150 rfl rfl)⟩
theorem ml_RL_78 : mm_mlV RL 78 (yX9_chain, cX9_chain, 7, (some .int)) 9 2 := ⟨by decide, rfl, ⟨(tw3 230 rfl rfl), (tw1 1 rfl rfl), (tw3 233 rfl rfl), ⟨by decide +kernel, by decide +kernel, by decide +kernel⟩, by decide⟩, (tw3 231 rfl rfl), (tw3 232 rfl rfl)⟩
theorem ml_RL_81 : mm_mlV RL 81 (yX10_chain, cX10_chain, 5, (some .int)) 10 2 := ⟨by decide, rfl, ⟨(tw6 152 rfl rfl), (tw1 12 rfl rfl), (tw6 155 rfl rfl), ⟨by decide +kernel, by decide +kernel, by decide +kernel⟩, by decide⟩, (tw6 153 rfl rfl), (tw6 154 rfl rfl)⟩
theorem ml_RL_82 : mm_mlV RL 82 (yX9_lonely, cX9_lonely, 1, (some .int)) 9 0 := ⟨by decide, rfl, ⟨(tw3 234 rfl rfl), (tw1 1 rfl rfl), (tw3 237 rfl rfl), ⟨by decide +kernel, by decide +kernel, by decide +kernel⟩, by decide⟩, (tw3 235 rfl rfl), (tw3 236 rfl rfl)⟩
theorem ml_RL_85 : mm_mlV RL 85 (yX10_lonely, cX10_lonely, 1, (some .int)) 10 0 := ⟨by decide, rfl, ⟨(tw6 156 rfl rfl), (tw1 12 rfl rfl), (tw6 159 rfl rfl), ⟨by decide +kernel, by decide +kernel, by decide +kernel⟩, by decide⟩, (tw6 157 rfl rfl), (tw6 158 rfl rfl)⟩
theorem ml_RL_86 : mm_mlV RL 86 (yX9_bestRow, cX9_bestRow, 5, (some .int)) 9 1 := ⟨by decide, rfl, ⟨(tw4 3 rfl rfl), (tw1 1 rfl rfl), (tw4 6 rfl rfl), ⟨by decide +kernel, by decide +kernel, by decide +kernel⟩, by decide⟩, (tw4 4 rfl rfl), (tw4 5 rfl rfl)⟩
theorem ml_RL_89 : mm_mlV RL 89 (yX10_bestRow, cX10_bestRow, 2, (some .int)) 10 1 := ⟨by decide, rfl, ⟨(tw6 160 rfl rfl), (tw1 12 rfl rfl), (tw6 163 rfl rfl), ⟨by decide +kernel, by decide +kernel, by decide +kernel⟩, by decide⟩, (tw6 161 rfl rfl), (tw6 162 rfl rfl)⟩
theorem ml_RL_90 : mm_mlV RL 90 (yX9_forOne, cX9_forOne, 9, (some .int)) 9 4 := ⟨by decide, rfl, ⟨(tw4 17 rfl rfl), (tw1 1 rfl rfl), (tw4 20 rfl rfl), ⟨by decide +kernel, by decide +kernel, by decide +kernel⟩, by decide⟩, (tw4 18 rfl rfl), (tw4 19 rfl rfl)⟩
theorem ml_RL_94 : mm_mlV RL 94 (yX10_forOne, cX10_forOne, 10, (some .int)) 10 4 := ⟨by decide, rfl, ⟨(tw6 174 rfl rfl), (tw1 12 rfl rfl), (tw6 177 rfl rfl), ⟨by decide +kernel, by decide +kernel, by decide +kernel⟩, by decide⟩, (tw6 175 rfl rfl), (tw6 176 rfl rfl)⟩
theorem ml_RL_95 : mm_mlV RL 95 (yX9_torches, cX9_torches, 3, (some .int)) 9 1 := ⟨by decide, rfl, ⟨(tw4 21 rfl rfl), (tw1 1 rfl rfl), (tw4 24 rfl rfl), ⟨by decide +kernel, by decide +kernel, by decide +kernel⟩, by decide⟩, (tw4 22 rfl rfl), (tw4 23 rfl rfl)⟩
theorem ml_RL_98 : mm_mlV RL 98 (yX10_torches, cX10_torches, 7, (some .int)) 10 1 := ⟨by decide, rfl, ⟨(tw6 179 rfl rfl), (tw1 12 rfl rfl), (tw6 182 rfl rfl), ⟨by decide +kernel, by decide +kernel, by decide +kernel⟩, by decide⟩, (tw6 180 rfl rfl), (tw6 181 rfl rfl)⟩
theorem ml_RL_99 : mm_mlV RL 99 (yX9_out, cX9_out, 7, (some .int)) 9 2 := ⟨by decide, rfl, ⟨(tw4 29 rfl rfl), (tw1 1 rfl rfl), (tw4 32 rfl rfl), ⟨by decide +kernel, by decide +kernel, by decide +kernel⟩, by decide⟩, (tw4 30 rfl rfl), (tw4 31 rfl rfl)⟩
theorem dL_law_0 : decode cL_law 0 = .ok (.new 7, 3) := by decide +kernel
theorem dL_law_3 : decode cL_law 3 = .ok (.dup, 1) := by decide +kernel
theorem dL_law_4 : decode cL_law 4 = .ok (.invokespecial 9, 3) := by decide +kernel
theorem dL_law_7 : decode cL_law 7 = .ok (.astore_n 1, 1) := by decide +kernel
theorem dL_law_8 : decode cL_law 8 = .ok (.new 10, 3) := by decide +kernel
theorem dL_law_11 : decode cL_law 11 = .ok (.dup, 1) := by decide +kernel
theorem dL_law_12 : decode cL_law 12 = .ok (.invokespecial 12, 3) := by decide +kernel
theorem dL_law_15 : decode cL_law 15 = .ok (.astore_n 2, 1) := by decide +kernel
theorem dL_law_16 : decode cL_law 16 = .ok (.iconst 0, 1) := by decide +kernel
theorem dL_law_17 : decode cL_law 17 = .ok (.istore_n 3, 1) := by decide +kernel
theorem dL_law_18 : decode cL_law 18 = .ok (.iload_n 3, 1) := by decide +kernel
theorem dL_law_19 : decode cL_law 19 = .ok (.aload_n 0, 1) := by decide +kernel
theorem dL_law_20 : decode cL_law 20 = .ok (.arraylength, 1) := by decide +kernel
theorem dL_law_21 : decode cL_law 21 = .ok (.bipush 6, 2) := by decide +kernel
theorem dL_law_23 : decode cL_law 23 = .ok (.isub, 1) := by decide +kernel
theorem dL_law_24 : decode cL_law 24 = .ok (.if_icmp .gt 1168, 3) := by decide +kernel
theorem dL_law_27 : decode cL_law 27 = .ok (.aload_n 0, 1) := by decide +kernel
theorem dL_law_28 : decode cL_law 28 = .ok (.iload_n 3, 1) := by decide +kernel
theorem dL_law_29 : decode cL_law 29 = .ok (.iaload, 1) := by decide +kernel
theorem dL_law_30 : decode cL_law 30 = .ok (.bipush 63, 2) := by decide +kernel
theorem dL_law_32 : decode cL_law 32 = .ok (.iand, 1) := by decide +kernel
theorem dL_law_33 : decode cL_law 33 = .ok (.tableswitch 1153 0 33 #[151, 214, 237, 250, 263, 286, 319, 352, 365, 398, 421, 464, 497, 510, 553, 576, 609, 622, 645, 698, 721, 754, 787, 810, 843, 896, 919, 962, 985, 1008, 1031, 1084, 1107, 1130], 151) := by decide +kernel
theorem dL_law_184 : decode cL_law 184 = .ok (.aload_n 1, 1) := by decide +kernel
theorem dL_law_185 : decode cL_law 185 = .ok (.aload_n 0, 1) := by decide +kernel
theorem dL_law_186 : decode cL_law 186 = .ok (.iload_n 3, 1) := by decide +kernel
theorem dL_law_187 : decode cL_law 187 = .ok (.iconst 1, 1) := by decide +kernel
theorem dL_law_188 : decode cL_law 188 = .ok (.iadd, 1) := by decide +kernel
theorem dL_law_189 : decode cL_law 189 = .ok (.iaload, 1) := by decide +kernel
theorem dL_law_190 : decode cL_law 190 = .ok (.aload_n 0, 1) := by decide +kernel
theorem dL_law_191 : decode cL_law 191 = .ok (.iload_n 3, 1) := by decide +kernel
theorem dL_law_192 : decode cL_law 192 = .ok (.iconst 2, 1) := by decide +kernel
theorem dL_law_193 : decode cL_law 193 = .ok (.iadd, 1) := by decide +kernel
theorem dL_law_194 : decode cL_law 194 = .ok (.iaload, 1) := by decide +kernel
theorem dL_law_195 : decode cL_law 195 = .ok (.aload_n 0, 1) := by decide +kernel
theorem dL_law_196 : decode cL_law 196 = .ok (.iload_n 3, 1) := by decide +kernel
theorem dL_law_197 : decode cL_law 197 = .ok (.iconst 3, 1) := by decide +kernel
theorem dL_law_198 : decode cL_law 198 = .ok (.iadd, 1) := by decide +kernel
theorem dL_law_199 : decode cL_law 199 = .ok (.iaload, 1) := by decide +kernel
theorem dL_law_200 : decode cL_law 200 = .ok (.aload_n 0, 1) := by decide +kernel
theorem dL_law_201 : decode cL_law 201 = .ok (.iload_n 3, 1) := by decide +kernel
theorem dL_law_202 : decode cL_law 202 = .ok (.iconst 4, 1) := by decide +kernel
theorem dL_law_203 : decode cL_law 203 = .ok (.iadd, 1) := by decide +kernel
theorem dL_law_204 : decode cL_law 204 = .ok (.iaload, 1) := by decide +kernel
theorem dL_law_205 : decode cL_law 205 = .ok (.aload_n 0, 1) := by decide +kernel
theorem dL_law_206 : decode cL_law 206 = .ok (.iload_n 3, 1) := by decide +kernel
theorem dL_law_207 : decode cL_law 207 = .ok (.iconst 5, 1) := by decide +kernel
theorem dL_law_208 : decode cL_law 208 = .ok (.iadd, 1) := by decide +kernel
theorem dL_law_209 : decode cL_law 209 = .ok (.iaload, 1) := by decide +kernel
theorem dL_law_210 : decode cL_law 210 = .ok (.invokevirtual 13, 3) := by decide +kernel
theorem dL_law_213 : decode cL_law 213 = .ok (.aload_n 2, 1) := by decide +kernel
theorem dL_law_214 : decode cL_law 214 = .ok (.aload_n 0, 1) := by decide +kernel
theorem dL_law_215 : decode cL_law 215 = .ok (.iload_n 3, 1) := by decide +kernel
theorem dL_law_216 : decode cL_law 216 = .ok (.iconst 1, 1) := by decide +kernel
theorem dL_law_217 : decode cL_law 217 = .ok (.iadd, 1) := by decide +kernel
theorem dL_law_218 : decode cL_law 218 = .ok (.iaload, 1) := by decide +kernel
theorem dL_law_219 : decode cL_law 219 = .ok (.aload_n 0, 1) := by decide +kernel
theorem dL_law_220 : decode cL_law 220 = .ok (.iload_n 3, 1) := by decide +kernel
theorem dL_law_221 : decode cL_law 221 = .ok (.iconst 2, 1) := by decide +kernel
theorem dL_law_222 : decode cL_law 222 = .ok (.iadd, 1) := by decide +kernel
theorem dL_law_223 : decode cL_law 223 = .ok (.iaload, 1) := by decide +kernel
theorem dL_law_224 : decode cL_law 224 = .ok (.aload_n 0, 1) := by decide +kernel
theorem dL_law_225 : decode cL_law 225 = .ok (.iload_n 3, 1) := by decide +kernel
theorem dL_law_226 : decode cL_law 226 = .ok (.iconst 3, 1) := by decide +kernel
theorem dL_law_227 : decode cL_law 227 = .ok (.iadd, 1) := by decide +kernel
theorem dL_law_228 : decode cL_law 228 = .ok (.iaload, 1) := by decide +kernel
theorem dL_law_229 : decode cL_law 229 = .ok (.aload_n 0, 1) := by decide +kernel
theorem dL_law_230 : decode cL_law 230 = .ok (.iload_n 3, 1) := by decide +kernel
theorem dL_law_231 : decode cL_law 231 = .ok (.iconst 4, 1) := by decide +kernel
theorem dL_law_232 : decode cL_law 232 = .ok (.iadd, 1) := by decide +kernel
theorem dL_law_233 : decode cL_law 233 = .ok (.iaload, 1) := by decide +kernel
theorem dL_law_234 : decode cL_law 234 = .ok (.aload_n 0, 1) := by decide +kernel
theorem dL_law_235 : decode cL_law 235 = .ok (.iload_n 3, 1) := by decide +kernel
theorem dL_law_236 : decode cL_law 236 = .ok (.iconst 5, 1) := by decide +kernel
theorem dL_law_237 : decode cL_law 237 = .ok (.iadd, 1) := by decide +kernel
theorem dL_law_238 : decode cL_law 238 = .ok (.iaload, 1) := by decide +kernel
theorem dL_law_239 : decode cL_law 239 = .ok (.invokevirtual 17, 3) := by decide +kernel
theorem dL_law_242 : decode cL_law 242 = .ok (.if_icmp .eq 944, 3) := by decide +kernel
theorem dL_law_245 : decode cL_law 245 = .ok (.iconst 0, 1) := by decide +kernel
theorem dL_law_246 : decode cL_law 246 = .ok (.ireturn, 1) := by decide +kernel
theorem dL_law_247 : decode cL_law 247 = .ok (.aload_n 1, 1) := by decide +kernel
theorem dL_law_248 : decode cL_law 248 = .ok (.aload_n 0, 1) := by decide +kernel
theorem dL_law_249 : decode cL_law 249 = .ok (.iload_n 3, 1) := by decide +kernel
theorem dL_law_250 : decode cL_law 250 = .ok (.iconst 1, 1) := by decide +kernel
theorem dL_law_251 : decode cL_law 251 = .ok (.iadd, 1) := by decide +kernel
theorem dL_law_252 : decode cL_law 252 = .ok (.iaload, 1) := by decide +kernel
theorem dL_law_253 : decode cL_law 253 = .ok (.invokevirtual 18, 3) := by decide +kernel
theorem dL_law_256 : decode cL_law 256 = .ok (.aload_n 2, 1) := by decide +kernel
theorem dL_law_257 : decode cL_law 257 = .ok (.aload_n 0, 1) := by decide +kernel
theorem dL_law_258 : decode cL_law 258 = .ok (.iload_n 3, 1) := by decide +kernel
theorem dL_law_259 : decode cL_law 259 = .ok (.iconst 1, 1) := by decide +kernel
theorem dL_law_260 : decode cL_law 260 = .ok (.iadd, 1) := by decide +kernel
theorem dL_law_261 : decode cL_law 261 = .ok (.iaload, 1) := by decide +kernel
theorem dL_law_262 : decode cL_law 262 = .ok (.invokevirtual 22, 3) := by decide +kernel
theorem dL_law_265 : decode cL_law 265 = .ok (.if_icmp .eq 921, 3) := by decide +kernel
theorem dL_law_268 : decode cL_law 268 = .ok (.iconst 0, 1) := by decide +kernel
theorem dL_law_269 : decode cL_law 269 = .ok (.ireturn, 1) := by decide +kernel
theorem dL_law_270 : decode cL_law 270 = .ok (.aload_n 1, 1) := by decide +kernel
theorem dL_law_271 : decode cL_law 271 = .ok (.invokevirtual 23, 3) := by decide +kernel
theorem dL_law_274 : decode cL_law 274 = .ok (.aload_n 2, 1) := by decide +kernel
theorem dL_law_275 : decode cL_law 275 = .ok (.invokevirtual 27, 3) := by decide +kernel
theorem dL_law_278 : decode cL_law 278 = .ok (.if_icmp .eq 908, 3) := by decide +kernel
theorem dL_law_281 : decode cL_law 281 = .ok (.iconst 0, 1) := by decide +kernel
theorem dL_law_282 : decode cL_law 282 = .ok (.ireturn, 1) := by decide +kernel
theorem dL_law_283 : decode cL_law 283 = .ok (.aload_n 1, 1) := by decide +kernel
theorem dL_law_284 : decode cL_law 284 = .ok (.invokevirtual 28, 3) := by decide +kernel
theorem dL_law_287 : decode cL_law 287 = .ok (.aload_n 2, 1) := by decide +kernel
theorem dL_law_288 : decode cL_law 288 = .ok (.invokevirtual 31, 3) := by decide +kernel
theorem dL_law_291 : decode cL_law 291 = .ok (.if_icmp .eq 895, 3) := by decide +kernel
theorem dL_law_294 : decode cL_law 294 = .ok (.iconst 0, 1) := by decide +kernel
theorem dL_law_295 : decode cL_law 295 = .ok (.ireturn, 1) := by decide +kernel
theorem dL_law_296 : decode cL_law 296 = .ok (.aload_n 1, 1) := by decide +kernel
theorem dL_law_297 : decode cL_law 297 = .ok (.aload_n 0, 1) := by decide +kernel
theorem dL_law_298 : decode cL_law 298 = .ok (.iload_n 3, 1) := by decide +kernel
theorem dL_law_299 : decode cL_law 299 = .ok (.iconst 1, 1) := by decide +kernel
theorem dL_law_300 : decode cL_law 300 = .ok (.iadd, 1) := by decide +kernel
theorem dL_law_301 : decode cL_law 301 = .ok (.iaload, 1) := by decide +kernel
theorem dL_law_302 : decode cL_law 302 = .ok (.invokevirtual 32, 3) := by decide +kernel
theorem dL_law_305 : decode cL_law 305 = .ok (.aload_n 2, 1) := by decide +kernel
theorem dL_law_306 : decode cL_law 306 = .ok (.aload_n 0, 1) := by decide +kernel
theorem dL_law_307 : decode cL_law 307 = .ok (.iload_n 3, 1) := by decide +kernel
theorem dL_law_308 : decode cL_law 308 = .ok (.iconst 1, 1) := by decide +kernel
theorem dL_law_309 : decode cL_law 309 = .ok (.iadd, 1) := by decide +kernel
theorem dL_law_310 : decode cL_law 310 = .ok (.iaload, 1) := by decide +kernel
theorem dL_law_311 : decode cL_law 311 = .ok (.invokevirtual 35, 3) := by decide +kernel
theorem dL_law_314 : decode cL_law 314 = .ok (.if_icmp .eq 872, 3) := by decide +kernel
theorem dL_law_317 : decode cL_law 317 = .ok (.iconst 0, 1) := by decide +kernel
theorem dL_law_318 : decode cL_law 318 = .ok (.ireturn, 1) := by decide +kernel
theorem dL_law_319 : decode cL_law 319 = .ok (.aload_n 1, 1) := by decide +kernel
theorem dL_law_320 : decode cL_law 320 = .ok (.aload_n 0, 1) := by decide +kernel
theorem dL_law_321 : decode cL_law 321 = .ok (.iload_n 3, 1) := by decide +kernel
theorem dL_law_322 : decode cL_law 322 = .ok (.iconst 1, 1) := by decide +kernel
theorem dL_law_323 : decode cL_law 323 = .ok (.iadd, 1) := by decide +kernel
theorem dL_law_324 : decode cL_law 324 = .ok (.iaload, 1) := by decide +kernel
theorem dL_law_325 : decode cL_law 325 = .ok (.aload_n 0, 1) := by decide +kernel
theorem dL_law_326 : decode cL_law 326 = .ok (.iload_n 3, 1) := by decide +kernel
theorem dL_law_327 : decode cL_law 327 = .ok (.iconst 2, 1) := by decide +kernel
theorem dL_law_328 : decode cL_law 328 = .ok (.iadd, 1) := by decide +kernel
theorem dL_law_329 : decode cL_law 329 = .ok (.iaload, 1) := by decide +kernel
theorem dL_law_330 : decode cL_law 330 = .ok (.invokevirtual 36, 3) := by decide +kernel
theorem dL_law_333 : decode cL_law 333 = .ok (.aload_n 2, 1) := by decide +kernel
theorem dL_law_334 : decode cL_law 334 = .ok (.aload_n 0, 1) := by decide +kernel
theorem dL_law_335 : decode cL_law 335 = .ok (.iload_n 3, 1) := by decide +kernel
theorem dL_law_336 : decode cL_law 336 = .ok (.iconst 1, 1) := by decide +kernel
theorem dL_law_337 : decode cL_law 337 = .ok (.iadd, 1) := by decide +kernel
theorem dL_law_338 : decode cL_law 338 = .ok (.iaload, 1) := by decide +kernel
theorem dL_law_339 : decode cL_law 339 = .ok (.aload_n 0, 1) := by decide +kernel
theorem dL_law_340 : decode cL_law 340 = .ok (.iload_n 3, 1) := by decide +kernel
theorem dL_law_341 : decode cL_law 341 = .ok (.iconst 2, 1) := by decide +kernel
theorem dL_law_342 : decode cL_law 342 = .ok (.iadd, 1) := by decide +kernel
theorem dL_law_343 : decode cL_law 343 = .ok (.iaload, 1) := by decide +kernel
theorem dL_law_344 : decode cL_law 344 = .ok (.invokevirtual 40, 3) := by decide +kernel
theorem dL_law_347 : decode cL_law 347 = .ok (.if_icmp .eq 839, 3) := by decide +kernel
theorem dL_law_350 : decode cL_law 350 = .ok (.iconst 0, 1) := by decide +kernel
theorem dL_law_351 : decode cL_law 351 = .ok (.ireturn, 1) := by decide +kernel
theorem dL_law_352 : decode cL_law 352 = .ok (.aload_n 1, 1) := by decide +kernel
theorem dL_law_353 : decode cL_law 353 = .ok (.aload_n 0, 1) := by decide +kernel
theorem dL_law_354 : decode cL_law 354 = .ok (.iload_n 3, 1) := by decide +kernel
theorem dL_law_355 : decode cL_law 355 = .ok (.iconst 1, 1) := by decide +kernel
theorem dL_law_356 : decode cL_law 356 = .ok (.iadd, 1) := by decide +kernel
theorem dL_law_357 : decode cL_law 357 = .ok (.iaload, 1) := by decide +kernel
theorem dL_law_358 : decode cL_law 358 = .ok (.aload_n 0, 1) := by decide +kernel
theorem dL_law_359 : decode cL_law 359 = .ok (.iload_n 3, 1) := by decide +kernel
theorem dL_law_360 : decode cL_law 360 = .ok (.iconst 2, 1) := by decide +kernel
theorem dL_law_361 : decode cL_law 361 = .ok (.iadd, 1) := by decide +kernel
theorem dL_law_362 : decode cL_law 362 = .ok (.iaload, 1) := by decide +kernel
theorem dL_law_363 : decode cL_law 363 = .ok (.invokevirtual 41, 3) := by decide +kernel
theorem dL_law_366 : decode cL_law 366 = .ok (.aload_n 2, 1) := by decide +kernel
theorem dL_law_367 : decode cL_law 367 = .ok (.aload_n 0, 1) := by decide +kernel
theorem dL_law_368 : decode cL_law 368 = .ok (.iload_n 3, 1) := by decide +kernel
theorem dL_law_369 : decode cL_law 369 = .ok (.iconst 1, 1) := by decide +kernel
theorem dL_law_370 : decode cL_law 370 = .ok (.iadd, 1) := by decide +kernel
theorem dL_law_371 : decode cL_law 371 = .ok (.iaload, 1) := by decide +kernel
theorem dL_law_372 : decode cL_law 372 = .ok (.aload_n 0, 1) := by decide +kernel
theorem dL_law_373 : decode cL_law 373 = .ok (.iload_n 3, 1) := by decide +kernel
theorem dL_law_374 : decode cL_law 374 = .ok (.iconst 2, 1) := by decide +kernel
theorem dL_law_375 : decode cL_law 375 = .ok (.iadd, 1) := by decide +kernel
theorem dL_law_376 : decode cL_law 376 = .ok (.iaload, 1) := by decide +kernel
theorem dL_law_377 : decode cL_law 377 = .ok (.invokevirtual 44, 3) := by decide +kernel
theorem dL_law_380 : decode cL_law 380 = .ok (.if_icmp .eq 806, 3) := by decide +kernel
theorem dL_law_383 : decode cL_law 383 = .ok (.iconst 0, 1) := by decide +kernel
theorem dL_law_384 : decode cL_law 384 = .ok (.ireturn, 1) := by decide +kernel
theorem dL_law_385 : decode cL_law 385 = .ok (.aload_n 1, 1) := by decide +kernel
theorem dL_law_386 : decode cL_law 386 = .ok (.invokevirtual 45, 3) := by decide +kernel
theorem dL_law_389 : decode cL_law 389 = .ok (.aload_n 2, 1) := by decide +kernel
theorem dL_law_390 : decode cL_law 390 = .ok (.invokevirtual 48, 3) := by decide +kernel
theorem dL_law_393 : decode cL_law 393 = .ok (.if_icmp .eq 793, 3) := by decide +kernel
theorem dL_law_396 : decode cL_law 396 = .ok (.iconst 0, 1) := by decide +kernel
theorem dL_law_397 : decode cL_law 397 = .ok (.ireturn, 1) := by decide +kernel
theorem dL_law_398 : decode cL_law 398 = .ok (.aload_n 1, 1) := by decide +kernel
theorem dL_law_399 : decode cL_law 399 = .ok (.aload_n 0, 1) := by decide +kernel
theorem dL_law_400 : decode cL_law 400 = .ok (.iload_n 3, 1) := by decide +kernel
theorem dL_law_401 : decode cL_law 401 = .ok (.iconst 1, 1) := by decide +kernel
theorem dL_law_402 : decode cL_law 402 = .ok (.iadd, 1) := by decide +kernel
theorem dL_law_403 : decode cL_law 403 = .ok (.iaload, 1) := by decide +kernel
theorem dL_law_404 : decode cL_law 404 = .ok (.aload_n 0, 1) := by decide +kernel
theorem dL_law_405 : decode cL_law 405 = .ok (.iload_n 3, 1) := by decide +kernel
theorem dL_law_406 : decode cL_law 406 = .ok (.iconst 2, 1) := by decide +kernel
theorem dL_law_407 : decode cL_law 407 = .ok (.iadd, 1) := by decide +kernel
theorem dL_law_408 : decode cL_law 408 = .ok (.iaload, 1) := by decide +kernel
theorem dL_law_409 : decode cL_law 409 = .ok (.invokevirtual 49, 3) := by decide +kernel
theorem dL_law_412 : decode cL_law 412 = .ok (.aload_n 2, 1) := by decide +kernel
theorem dL_law_413 : decode cL_law 413 = .ok (.aload_n 0, 1) := by decide +kernel
theorem dL_law_414 : decode cL_law 414 = .ok (.iload_n 3, 1) := by decide +kernel
theorem dL_law_415 : decode cL_law 415 = .ok (.iconst 1, 1) := by decide +kernel
theorem dL_law_416 : decode cL_law 416 = .ok (.iadd, 1) := by decide +kernel
theorem dL_law_417 : decode cL_law 417 = .ok (.iaload, 1) := by decide +kernel
theorem dL_law_418 : decode cL_law 418 = .ok (.aload_n 0, 1) := by decide +kernel
theorem dL_law_419 : decode cL_law 419 = .ok (.iload_n 3, 1) := by decide +kernel
theorem dL_law_420 : decode cL_law 420 = .ok (.iconst 2, 1) := by decide +kernel
theorem dL_law_421 : decode cL_law 421 = .ok (.iadd, 1) := by decide +kernel
theorem dL_law_422 : decode cL_law 422 = .ok (.iaload, 1) := by decide +kernel
theorem dL_law_423 : decode cL_law 423 = .ok (.invokevirtual 52, 3) := by decide +kernel
theorem dL_law_426 : decode cL_law 426 = .ok (.if_icmp .eq 760, 3) := by decide +kernel
theorem dL_law_429 : decode cL_law 429 = .ok (.iconst 0, 1) := by decide +kernel
theorem dL_law_430 : decode cL_law 430 = .ok (.ireturn, 1) := by decide +kernel
theorem dL_law_431 : decode cL_law 431 = .ok (.aload_n 1, 1) := by decide +kernel
theorem dL_law_432 : decode cL_law 432 = .ok (.aload_n 0, 1) := by decide +kernel
theorem dL_law_433 : decode cL_law 433 = .ok (.iload_n 3, 1) := by decide +kernel
theorem dL_law_434 : decode cL_law 434 = .ok (.iconst 1, 1) := by decide +kernel
theorem dL_law_435 : decode cL_law 435 = .ok (.iadd, 1) := by decide +kernel
theorem dL_law_436 : decode cL_law 436 = .ok (.iaload, 1) := by decide +kernel
theorem dL_law_437 : decode cL_law 437 = .ok (.invokevirtual 53, 3) := by decide +kernel
theorem dL_law_440 : decode cL_law 440 = .ok (.aload_n 2, 1) := by decide +kernel
theorem dL_law_441 : decode cL_law 441 = .ok (.aload_n 0, 1) := by decide +kernel
theorem dL_law_442 : decode cL_law 442 = .ok (.iload_n 3, 1) := by decide +kernel
theorem dL_law_443 : decode cL_law 443 = .ok (.iconst 1, 1) := by decide +kernel
theorem dL_law_444 : decode cL_law 444 = .ok (.iadd, 1) := by decide +kernel
theorem dL_law_445 : decode cL_law 445 = .ok (.iaload, 1) := by decide +kernel
theorem dL_law_446 : decode cL_law 446 = .ok (.invokevirtual 56, 3) := by decide +kernel
theorem dL_law_449 : decode cL_law 449 = .ok (.if_icmp .eq 737, 3) := by decide +kernel
theorem dL_law_452 : decode cL_law 452 = .ok (.iconst 0, 1) := by decide +kernel
theorem dL_law_453 : decode cL_law 453 = .ok (.ireturn, 1) := by decide +kernel
theorem dL_law_454 : decode cL_law 454 = .ok (.aload_n 1, 1) := by decide +kernel
theorem dL_law_455 : decode cL_law 455 = .ok (.aload_n 0, 1) := by decide +kernel
theorem dL_law_456 : decode cL_law 456 = .ok (.iload_n 3, 1) := by decide +kernel
theorem dL_law_457 : decode cL_law 457 = .ok (.iconst 1, 1) := by decide +kernel
theorem dL_law_458 : decode cL_law 458 = .ok (.iadd, 1) := by decide +kernel
theorem dL_law_459 : decode cL_law 459 = .ok (.iaload, 1) := by decide +kernel
theorem dL_law_460 : decode cL_law 460 = .ok (.aload_n 0, 1) := by decide +kernel
theorem dL_law_461 : decode cL_law 461 = .ok (.iload_n 3, 1) := by decide +kernel
theorem dL_law_462 : decode cL_law 462 = .ok (.iconst 2, 1) := by decide +kernel
theorem dL_law_463 : decode cL_law 463 = .ok (.iadd, 1) := by decide +kernel
theorem dL_law_464 : decode cL_law 464 = .ok (.iaload, 1) := by decide +kernel
theorem dL_law_465 : decode cL_law 465 = .ok (.aload_n 0, 1) := by decide +kernel
theorem dL_law_466 : decode cL_law 466 = .ok (.iload_n 3, 1) := by decide +kernel
theorem dL_law_467 : decode cL_law 467 = .ok (.iconst 3, 1) := by decide +kernel
theorem dL_law_468 : decode cL_law 468 = .ok (.iadd, 1) := by decide +kernel
theorem dL_law_469 : decode cL_law 469 = .ok (.iaload, 1) := by decide +kernel
theorem dL_law_470 : decode cL_law 470 = .ok (.invokevirtual 57, 3) := by decide +kernel
theorem dL_law_473 : decode cL_law 473 = .ok (.aload_n 2, 1) := by decide +kernel
theorem dL_law_474 : decode cL_law 474 = .ok (.aload_n 0, 1) := by decide +kernel
theorem dL_law_475 : decode cL_law 475 = .ok (.iload_n 3, 1) := by decide +kernel
theorem dL_law_476 : decode cL_law 476 = .ok (.iconst 1, 1) := by decide +kernel
theorem dL_law_477 : decode cL_law 477 = .ok (.iadd, 1) := by decide +kernel
theorem dL_law_478 : decode cL_law 478 = .ok (.iaload, 1) := by decide +kernel
theorem dL_law_479 : decode cL_law 479 = .ok (.aload_n 0, 1) := by decide +kernel
theorem dL_law_480 : decode cL_law 480 = .ok (.iload_n 3, 1) := by decide +kernel
theorem dL_law_481 : decode cL_law 481 = .ok (.iconst 2, 1) := by decide +kernel
theorem dL_law_482 : decode cL_law 482 = .ok (.iadd, 1) := by decide +kernel
theorem dL_law_483 : decode cL_law 483 = .ok (.iaload, 1) := by decide +kernel
theorem dL_law_484 : decode cL_law 484 = .ok (.aload_n 0, 1) := by decide +kernel
theorem dL_law_485 : decode cL_law 485 = .ok (.iload_n 3, 1) := by decide +kernel
theorem dL_law_486 : decode cL_law 486 = .ok (.iconst 3, 1) := by decide +kernel
theorem dL_law_487 : decode cL_law 487 = .ok (.iadd, 1) := by decide +kernel
theorem dL_law_488 : decode cL_law 488 = .ok (.iaload, 1) := by decide +kernel
theorem dL_law_489 : decode cL_law 489 = .ok (.invokevirtual 61, 3) := by decide +kernel
theorem dL_law_492 : decode cL_law 492 = .ok (.if_icmp .eq 694, 3) := by decide +kernel
theorem dL_law_495 : decode cL_law 495 = .ok (.iconst 0, 1) := by decide +kernel
theorem dL_law_496 : decode cL_law 496 = .ok (.ireturn, 1) := by decide +kernel
theorem dL_law_497 : decode cL_law 497 = .ok (.aload_n 1, 1) := by decide +kernel
theorem dL_law_498 : decode cL_law 498 = .ok (.aload_n 0, 1) := by decide +kernel
theorem dL_law_499 : decode cL_law 499 = .ok (.iload_n 3, 1) := by decide +kernel
theorem dL_law_500 : decode cL_law 500 = .ok (.iconst 1, 1) := by decide +kernel
theorem dL_law_501 : decode cL_law 501 = .ok (.iadd, 1) := by decide +kernel
theorem dL_law_502 : decode cL_law 502 = .ok (.iaload, 1) := by decide +kernel
theorem dL_law_503 : decode cL_law 503 = .ok (.aload_n 0, 1) := by decide +kernel
theorem dL_law_504 : decode cL_law 504 = .ok (.iload_n 3, 1) := by decide +kernel
theorem dL_law_505 : decode cL_law 505 = .ok (.iconst 2, 1) := by decide +kernel
theorem dL_law_506 : decode cL_law 506 = .ok (.iadd, 1) := by decide +kernel
theorem dL_law_507 : decode cL_law 507 = .ok (.iaload, 1) := by decide +kernel
theorem dL_law_508 : decode cL_law 508 = .ok (.invokevirtual 62, 3) := by decide +kernel
theorem dL_law_511 : decode cL_law 511 = .ok (.aload_n 2, 1) := by decide +kernel
theorem dL_law_512 : decode cL_law 512 = .ok (.aload_n 0, 1) := by decide +kernel
theorem dL_law_513 : decode cL_law 513 = .ok (.iload_n 3, 1) := by decide +kernel
theorem dL_law_514 : decode cL_law 514 = .ok (.iconst 1, 1) := by decide +kernel
theorem dL_law_515 : decode cL_law 515 = .ok (.iadd, 1) := by decide +kernel
theorem dL_law_516 : decode cL_law 516 = .ok (.iaload, 1) := by decide +kernel
theorem dL_law_517 : decode cL_law 517 = .ok (.aload_n 0, 1) := by decide +kernel
theorem dL_law_518 : decode cL_law 518 = .ok (.iload_n 3, 1) := by decide +kernel
theorem dL_law_519 : decode cL_law 519 = .ok (.iconst 2, 1) := by decide +kernel
theorem dL_law_520 : decode cL_law 520 = .ok (.iadd, 1) := by decide +kernel
theorem dL_law_521 : decode cL_law 521 = .ok (.iaload, 1) := by decide +kernel
theorem dL_law_522 : decode cL_law 522 = .ok (.invokevirtual 65, 3) := by decide +kernel
theorem dL_law_525 : decode cL_law 525 = .ok (.if_icmp .eq 661, 3) := by decide +kernel
theorem dL_law_528 : decode cL_law 528 = .ok (.iconst 0, 1) := by decide +kernel
theorem dL_law_529 : decode cL_law 529 = .ok (.ireturn, 1) := by decide +kernel
theorem dL_law_530 : decode cL_law 530 = .ok (.aload_n 1, 1) := by decide +kernel
theorem dL_law_531 : decode cL_law 531 = .ok (.invokevirtual 66, 3) := by decide +kernel
theorem dL_law_534 : decode cL_law 534 = .ok (.aload_n 2, 1) := by decide +kernel
theorem dL_law_535 : decode cL_law 535 = .ok (.invokevirtual 69, 3) := by decide +kernel
theorem dL_law_538 : decode cL_law 538 = .ok (.if_icmp .eq 648, 3) := by decide +kernel
theorem dL_law_541 : decode cL_law 541 = .ok (.iconst 0, 1) := by decide +kernel
theorem dL_law_542 : decode cL_law 542 = .ok (.ireturn, 1) := by decide +kernel
theorem dL_law_543 : decode cL_law 543 = .ok (.aload_n 1, 1) := by decide +kernel
theorem dL_law_544 : decode cL_law 544 = .ok (.aload_n 0, 1) := by decide +kernel
theorem dL_law_545 : decode cL_law 545 = .ok (.iload_n 3, 1) := by decide +kernel
theorem dL_law_546 : decode cL_law 546 = .ok (.iconst 1, 1) := by decide +kernel
theorem dL_law_547 : decode cL_law 547 = .ok (.iadd, 1) := by decide +kernel
theorem dL_law_548 : decode cL_law 548 = .ok (.iaload, 1) := by decide +kernel
theorem dL_law_549 : decode cL_law 549 = .ok (.aload_n 0, 1) := by decide +kernel
theorem dL_law_550 : decode cL_law 550 = .ok (.iload_n 3, 1) := by decide +kernel
theorem dL_law_551 : decode cL_law 551 = .ok (.iconst 2, 1) := by decide +kernel
theorem dL_law_552 : decode cL_law 552 = .ok (.iadd, 1) := by decide +kernel
theorem dL_law_553 : decode cL_law 553 = .ok (.iaload, 1) := by decide +kernel
theorem dL_law_554 : decode cL_law 554 = .ok (.aload_n 0, 1) := by decide +kernel
theorem dL_law_555 : decode cL_law 555 = .ok (.iload_n 3, 1) := by decide +kernel
theorem dL_law_556 : decode cL_law 556 = .ok (.iconst 3, 1) := by decide +kernel
theorem dL_law_557 : decode cL_law 557 = .ok (.iadd, 1) := by decide +kernel
theorem dL_law_558 : decode cL_law 558 = .ok (.iaload, 1) := by decide +kernel
theorem dL_law_559 : decode cL_law 559 = .ok (.invokevirtual 70, 3) := by decide +kernel
theorem dL_law_562 : decode cL_law 562 = .ok (.aload_n 2, 1) := by decide +kernel
theorem dL_law_563 : decode cL_law 563 = .ok (.aload_n 0, 1) := by decide +kernel
theorem dL_law_564 : decode cL_law 564 = .ok (.iload_n 3, 1) := by decide +kernel
theorem dL_law_565 : decode cL_law 565 = .ok (.iconst 1, 1) := by decide +kernel
theorem dL_law_566 : decode cL_law 566 = .ok (.iadd, 1) := by decide +kernel
theorem dL_law_567 : decode cL_law 567 = .ok (.iaload, 1) := by decide +kernel
theorem dL_law_568 : decode cL_law 568 = .ok (.aload_n 0, 1) := by decide +kernel
theorem dL_law_569 : decode cL_law 569 = .ok (.iload_n 3, 1) := by decide +kernel
theorem dL_law_570 : decode cL_law 570 = .ok (.iconst 2, 1) := by decide +kernel
theorem dL_law_571 : decode cL_law 571 = .ok (.iadd, 1) := by decide +kernel
theorem dL_law_572 : decode cL_law 572 = .ok (.iaload, 1) := by decide +kernel
theorem dL_law_573 : decode cL_law 573 = .ok (.aload_n 0, 1) := by decide +kernel
theorem dL_law_574 : decode cL_law 574 = .ok (.iload_n 3, 1) := by decide +kernel
theorem dL_law_575 : decode cL_law 575 = .ok (.iconst 3, 1) := by decide +kernel
theorem dL_law_576 : decode cL_law 576 = .ok (.iadd, 1) := by decide +kernel
theorem dL_law_577 : decode cL_law 577 = .ok (.iaload, 1) := by decide +kernel
theorem dL_law_578 : decode cL_law 578 = .ok (.invokevirtual 73, 3) := by decide +kernel
theorem dL_law_581 : decode cL_law 581 = .ok (.if_icmp .eq 605, 3) := by decide +kernel
theorem dL_law_584 : decode cL_law 584 = .ok (.iconst 0, 1) := by decide +kernel
theorem dL_law_585 : decode cL_law 585 = .ok (.ireturn, 1) := by decide +kernel
theorem dL_law_586 : decode cL_law 586 = .ok (.aload_n 1, 1) := by decide +kernel
theorem dL_law_587 : decode cL_law 587 = .ok (.aload_n 0, 1) := by decide +kernel
theorem dL_law_588 : decode cL_law 588 = .ok (.iload_n 3, 1) := by decide +kernel
theorem dL_law_589 : decode cL_law 589 = .ok (.iconst 1, 1) := by decide +kernel
theorem dL_law_590 : decode cL_law 590 = .ok (.iadd, 1) := by decide +kernel
theorem dL_law_591 : decode cL_law 591 = .ok (.iaload, 1) := by decide +kernel
theorem dL_law_592 : decode cL_law 592 = .ok (.invokevirtual 74, 3) := by decide +kernel
theorem dL_law_595 : decode cL_law 595 = .ok (.aload_n 2, 1) := by decide +kernel
theorem dL_law_596 : decode cL_law 596 = .ok (.aload_n 0, 1) := by decide +kernel
theorem dL_law_597 : decode cL_law 597 = .ok (.iload_n 3, 1) := by decide +kernel
theorem dL_law_598 : decode cL_law 598 = .ok (.iconst 1, 1) := by decide +kernel
theorem dL_law_599 : decode cL_law 599 = .ok (.iadd, 1) := by decide +kernel
theorem dL_law_600 : decode cL_law 600 = .ok (.iaload, 1) := by decide +kernel
theorem dL_law_601 : decode cL_law 601 = .ok (.invokevirtual 77, 3) := by decide +kernel
theorem dL_law_604 : decode cL_law 604 = .ok (.if_icmp .eq 582, 3) := by decide +kernel
theorem dL_law_607 : decode cL_law 607 = .ok (.iconst 0, 1) := by decide +kernel
theorem dL_law_608 : decode cL_law 608 = .ok (.ireturn, 1) := by decide +kernel
theorem dL_law_609 : decode cL_law 609 = .ok (.aload_n 1, 1) := by decide +kernel
theorem dL_law_610 : decode cL_law 610 = .ok (.aload_n 0, 1) := by decide +kernel
theorem dL_law_611 : decode cL_law 611 = .ok (.iload_n 3, 1) := by decide +kernel
theorem dL_law_612 : decode cL_law 612 = .ok (.iconst 1, 1) := by decide +kernel
theorem dL_law_613 : decode cL_law 613 = .ok (.iadd, 1) := by decide +kernel
theorem dL_law_614 : decode cL_law 614 = .ok (.iaload, 1) := by decide +kernel
theorem dL_law_615 : decode cL_law 615 = .ok (.aload_n 0, 1) := by decide +kernel
theorem dL_law_616 : decode cL_law 616 = .ok (.iload_n 3, 1) := by decide +kernel
theorem dL_law_617 : decode cL_law 617 = .ok (.iconst 2, 1) := by decide +kernel
theorem dL_law_618 : decode cL_law 618 = .ok (.iadd, 1) := by decide +kernel
theorem dL_law_619 : decode cL_law 619 = .ok (.iaload, 1) := by decide +kernel
theorem dL_law_620 : decode cL_law 620 = .ok (.invokevirtual 78, 3) := by decide +kernel
theorem dL_law_623 : decode cL_law 623 = .ok (.aload_n 2, 1) := by decide +kernel
theorem dL_law_624 : decode cL_law 624 = .ok (.aload_n 0, 1) := by decide +kernel
theorem dL_law_625 : decode cL_law 625 = .ok (.iload_n 3, 1) := by decide +kernel
theorem dL_law_626 : decode cL_law 626 = .ok (.iconst 1, 1) := by decide +kernel
theorem dL_law_627 : decode cL_law 627 = .ok (.iadd, 1) := by decide +kernel
theorem dL_law_628 : decode cL_law 628 = .ok (.iaload, 1) := by decide +kernel
theorem dL_law_629 : decode cL_law 629 = .ok (.aload_n 0, 1) := by decide +kernel
theorem dL_law_630 : decode cL_law 630 = .ok (.iload_n 3, 1) := by decide +kernel
theorem dL_law_631 : decode cL_law 631 = .ok (.iconst 2, 1) := by decide +kernel
theorem dL_law_632 : decode cL_law 632 = .ok (.iadd, 1) := by decide +kernel
theorem dL_law_633 : decode cL_law 633 = .ok (.iaload, 1) := by decide +kernel
theorem dL_law_634 : decode cL_law 634 = .ok (.invokevirtual 81, 3) := by decide +kernel
theorem dL_law_637 : decode cL_law 637 = .ok (.if_icmp .eq 549, 3) := by decide +kernel
theorem dL_law_640 : decode cL_law 640 = .ok (.iconst 0, 1) := by decide +kernel
theorem dL_law_641 : decode cL_law 641 = .ok (.ireturn, 1) := by decide +kernel
theorem dL_law_642 : decode cL_law 642 = .ok (.aload_n 1, 1) := by decide +kernel
theorem dL_law_643 : decode cL_law 643 = .ok (.invokevirtual 82, 3) := by decide +kernel
theorem dL_law_646 : decode cL_law 646 = .ok (.aload_n 2, 1) := by decide +kernel
theorem dL_law_647 : decode cL_law 647 = .ok (.invokevirtual 85, 3) := by decide +kernel
theorem dL_law_650 : decode cL_law 650 = .ok (.if_icmp .eq 536, 3) := by decide +kernel
theorem dL_law_653 : decode cL_law 653 = .ok (.iconst 0, 1) := by decide +kernel
theorem dL_law_654 : decode cL_law 654 = .ok (.ireturn, 1) := by decide +kernel
theorem dL_law_655 : decode cL_law 655 = .ok (.aload_n 1, 1) := by decide +kernel
theorem dL_law_656 : decode cL_law 656 = .ok (.aload_n 0, 1) := by decide +kernel
theorem dL_law_657 : decode cL_law 657 = .ok (.iload_n 3, 1) := by decide +kernel
theorem dL_law_658 : decode cL_law 658 = .ok (.iconst 1, 1) := by decide +kernel
theorem dL_law_659 : decode cL_law 659 = .ok (.iadd, 1) := by decide +kernel
theorem dL_law_660 : decode cL_law 660 = .ok (.iaload, 1) := by decide +kernel
theorem dL_law_661 : decode cL_law 661 = .ok (.invokevirtual 86, 3) := by decide +kernel
theorem dL_law_664 : decode cL_law 664 = .ok (.aload_n 2, 1) := by decide +kernel
theorem dL_law_665 : decode cL_law 665 = .ok (.aload_n 0, 1) := by decide +kernel
theorem dL_law_666 : decode cL_law 666 = .ok (.iload_n 3, 1) := by decide +kernel
theorem dL_law_667 : decode cL_law 667 = .ok (.iconst 1, 1) := by decide +kernel
theorem dL_law_668 : decode cL_law 668 = .ok (.iadd, 1) := by decide +kernel
theorem dL_law_669 : decode cL_law 669 = .ok (.iaload, 1) := by decide +kernel
theorem dL_law_670 : decode cL_law 670 = .ok (.invokevirtual 89, 3) := by decide +kernel
theorem dL_law_673 : decode cL_law 673 = .ok (.if_icmp .eq 513, 3) := by decide +kernel
theorem dL_law_676 : decode cL_law 676 = .ok (.iconst 0, 1) := by decide +kernel
theorem dL_law_677 : decode cL_law 677 = .ok (.ireturn, 1) := by decide +kernel
theorem dL_law_678 : decode cL_law 678 = .ok (.aload_n 1, 1) := by decide +kernel
theorem dL_law_679 : decode cL_law 679 = .ok (.aload_n 0, 1) := by decide +kernel
theorem dL_law_680 : decode cL_law 680 = .ok (.iload_n 3, 1) := by decide +kernel
theorem dL_law_681 : decode cL_law 681 = .ok (.iconst 1, 1) := by decide +kernel
theorem dL_law_682 : decode cL_law 682 = .ok (.iadd, 1) := by decide +kernel
theorem dL_law_683 : decode cL_law 683 = .ok (.iaload, 1) := by decide +kernel
theorem dL_law_684 : decode cL_law 684 = .ok (.aload_n 0, 1) := by decide +kernel
theorem dL_law_685 : decode cL_law 685 = .ok (.iload_n 3, 1) := by decide +kernel
theorem dL_law_686 : decode cL_law 686 = .ok (.iconst 2, 1) := by decide +kernel
theorem dL_law_687 : decode cL_law 687 = .ok (.iadd, 1) := by decide +kernel
theorem dL_law_688 : decode cL_law 688 = .ok (.iaload, 1) := by decide +kernel
theorem dL_law_689 : decode cL_law 689 = .ok (.aload_n 0, 1) := by decide +kernel
theorem dL_law_690 : decode cL_law 690 = .ok (.iload_n 3, 1) := by decide +kernel
theorem dL_law_691 : decode cL_law 691 = .ok (.iconst 3, 1) := by decide +kernel
theorem dL_law_692 : decode cL_law 692 = .ok (.iadd, 1) := by decide +kernel
theorem dL_law_693 : decode cL_law 693 = .ok (.iaload, 1) := by decide +kernel
theorem dL_law_694 : decode cL_law 694 = .ok (.aload_n 0, 1) := by decide +kernel
theorem dL_law_695 : decode cL_law 695 = .ok (.iload_n 3, 1) := by decide +kernel
theorem dL_law_696 : decode cL_law 696 = .ok (.iconst 4, 1) := by decide +kernel
theorem dL_law_697 : decode cL_law 697 = .ok (.iadd, 1) := by decide +kernel
theorem dL_law_698 : decode cL_law 698 = .ok (.iaload, 1) := by decide +kernel
theorem dL_law_699 : decode cL_law 699 = .ok (.invokevirtual 90, 3) := by decide +kernel
theorem dL_law_702 : decode cL_law 702 = .ok (.aload_n 2, 1) := by decide +kernel
theorem dL_law_703 : decode cL_law 703 = .ok (.aload_n 0, 1) := by decide +kernel
theorem dL_law_704 : decode cL_law 704 = .ok (.iload_n 3, 1) := by decide +kernel
theorem dL_law_705 : decode cL_law 705 = .ok (.iconst 1, 1) := by decide +kernel
theorem dL_law_706 : decode cL_law 706 = .ok (.iadd, 1) := by decide +kernel
theorem dL_law_707 : decode cL_law 707 = .ok (.iaload, 1) := by decide +kernel
theorem dL_law_708 : decode cL_law 708 = .ok (.aload_n 0, 1) := by decide +kernel
theorem dL_law_709 : decode cL_law 709 = .ok (.iload_n 3, 1) := by decide +kernel
theorem dL_law_710 : decode cL_law 710 = .ok (.iconst 2, 1) := by decide +kernel
theorem dL_law_711 : decode cL_law 711 = .ok (.iadd, 1) := by decide +kernel
theorem dL_law_712 : decode cL_law 712 = .ok (.iaload, 1) := by decide +kernel
theorem dL_law_713 : decode cL_law 713 = .ok (.aload_n 0, 1) := by decide +kernel
theorem dL_law_714 : decode cL_law 714 = .ok (.iload_n 3, 1) := by decide +kernel
theorem dL_law_715 : decode cL_law 715 = .ok (.iconst 3, 1) := by decide +kernel
theorem dL_law_716 : decode cL_law 716 = .ok (.iadd, 1) := by decide +kernel
theorem dL_law_717 : decode cL_law 717 = .ok (.iaload, 1) := by decide +kernel
theorem dL_law_718 : decode cL_law 718 = .ok (.aload_n 0, 1) := by decide +kernel
theorem dL_law_719 : decode cL_law 719 = .ok (.iload_n 3, 1) := by decide +kernel
theorem dL_law_720 : decode cL_law 720 = .ok (.iconst 4, 1) := by decide +kernel
theorem dL_law_721 : decode cL_law 721 = .ok (.iadd, 1) := by decide +kernel
theorem dL_law_722 : decode cL_law 722 = .ok (.iaload, 1) := by decide +kernel
theorem dL_law_723 : decode cL_law 723 = .ok (.invokevirtual 94, 3) := by decide +kernel
theorem dL_law_726 : decode cL_law 726 = .ok (.if_icmp .eq 460, 3) := by decide +kernel
theorem dL_law_729 : decode cL_law 729 = .ok (.iconst 0, 1) := by decide +kernel
theorem dL_law_730 : decode cL_law 730 = .ok (.ireturn, 1) := by decide +kernel
theorem dL_law_731 : decode cL_law 731 = .ok (.aload_n 1, 1) := by decide +kernel
theorem dL_law_732 : decode cL_law 732 = .ok (.aload_n 0, 1) := by decide +kernel
theorem dL_law_733 : decode cL_law 733 = .ok (.iload_n 3, 1) := by decide +kernel
theorem dL_law_734 : decode cL_law 734 = .ok (.iconst 1, 1) := by decide +kernel
theorem dL_law_735 : decode cL_law 735 = .ok (.iadd, 1) := by decide +kernel
theorem dL_law_736 : decode cL_law 736 = .ok (.iaload, 1) := by decide +kernel
theorem dL_law_737 : decode cL_law 737 = .ok (.invokevirtual 95, 3) := by decide +kernel
theorem dL_law_740 : decode cL_law 740 = .ok (.aload_n 2, 1) := by decide +kernel
theorem dL_law_741 : decode cL_law 741 = .ok (.aload_n 0, 1) := by decide +kernel
theorem dL_law_742 : decode cL_law 742 = .ok (.iload_n 3, 1) := by decide +kernel
theorem dL_law_743 : decode cL_law 743 = .ok (.iconst 1, 1) := by decide +kernel
theorem dL_law_744 : decode cL_law 744 = .ok (.iadd, 1) := by decide +kernel
theorem dL_law_745 : decode cL_law 745 = .ok (.iaload, 1) := by decide +kernel
theorem dL_law_746 : decode cL_law 746 = .ok (.invokevirtual 98, 3) := by decide +kernel
theorem dL_law_749 : decode cL_law 749 = .ok (.if_icmp .eq 437, 3) := by decide +kernel
theorem dL_law_752 : decode cL_law 752 = .ok (.iconst 0, 1) := by decide +kernel
theorem dL_law_753 : decode cL_law 753 = .ok (.ireturn, 1) := by decide +kernel
theorem dL_law_754 : decode cL_law 754 = .ok (.aload_n 1, 1) := by decide +kernel
theorem dL_law_755 : decode cL_law 755 = .ok (.aload_n 0, 1) := by decide +kernel
theorem dL_law_756 : decode cL_law 756 = .ok (.iload_n 3, 1) := by decide +kernel
theorem dL_law_757 : decode cL_law 757 = .ok (.iconst 1, 1) := by decide +kernel
theorem dL_law_758 : decode cL_law 758 = .ok (.iadd, 1) := by decide +kernel
theorem dL_law_759 : decode cL_law 759 = .ok (.iaload, 1) := by decide +kernel
theorem dL_law_760 : decode cL_law 760 = .ok (.aload_n 0, 1) := by decide +kernel
theorem dL_law_761 : decode cL_law 761 = .ok (.iload_n 3, 1) := by decide +kernel
theorem dL_law_762 : decode cL_law 762 = .ok (.iconst 2, 1) := by decide +kernel
theorem dL_law_763 : decode cL_law 763 = .ok (.iadd, 1) := by decide +kernel
theorem dL_law_764 : decode cL_law 764 = .ok (.iaload, 1) := by decide +kernel
theorem dL_law_765 : decode cL_law 765 = .ok (.invokevirtual 99, 3) := by decide +kernel
theorem dL_law_768 : decode cL_law 768 = .ok (.aload_n 2, 1) := by decide +kernel
theorem dL_law_769 : decode cL_law 769 = .ok (.aload_n 0, 1) := by decide +kernel
theorem dL_law_770 : decode cL_law 770 = .ok (.iload_n 3, 1) := by decide +kernel
theorem dL_law_771 : decode cL_law 771 = .ok (.iconst 1, 1) := by decide +kernel
theorem dL_law_772 : decode cL_law 772 = .ok (.iadd, 1) := by decide +kernel
theorem dL_law_773 : decode cL_law 773 = .ok (.iaload, 1) := by decide +kernel
theorem dL_law_774 : decode cL_law 774 = .ok (.aload_n 0, 1) := by decide +kernel
theorem dL_law_775 : decode cL_law 775 = .ok (.iload_n 3, 1) := by decide +kernel
theorem dL_law_776 : decode cL_law 776 = .ok (.iconst 2, 1) := by decide +kernel
theorem dL_law_777 : decode cL_law 777 = .ok (.iadd, 1) := by decide +kernel
theorem dL_law_778 : decode cL_law 778 = .ok (.iaload, 1) := by decide +kernel
theorem dL_law_779 : decode cL_law 779 = .ok (.invokevirtual 102, 3) := by decide +kernel
theorem dL_law_782 : decode cL_law 782 = .ok (.if_icmp .eq 404, 3) := by decide +kernel
theorem dL_law_785 : decode cL_law 785 = .ok (.iconst 0, 1) := by decide +kernel
theorem dL_law_786 : decode cL_law 786 = .ok (.ireturn, 1) := by decide +kernel
theorem dL_law_787 : decode cL_law 787 = .ok (.aload_n 1, 1) := by decide +kernel
theorem dL_law_788 : decode cL_law 788 = .ok (.aload_n 0, 1) := by decide +kernel
theorem dL_law_789 : decode cL_law 789 = .ok (.iload_n 3, 1) := by decide +kernel
theorem dL_law_790 : decode cL_law 790 = .ok (.iconst 1, 1) := by decide +kernel
theorem dL_law_791 : decode cL_law 791 = .ok (.iadd, 1) := by decide +kernel
theorem dL_law_792 : decode cL_law 792 = .ok (.iaload, 1) := by decide +kernel
theorem dL_law_793 : decode cL_law 793 = .ok (.aload_n 0, 1) := by decide +kernel
theorem dL_law_794 : decode cL_law 794 = .ok (.iload_n 3, 1) := by decide +kernel
theorem dL_law_795 : decode cL_law 795 = .ok (.iconst 2, 1) := by decide +kernel
theorem dL_law_796 : decode cL_law 796 = .ok (.iadd, 1) := by decide +kernel
theorem dL_law_797 : decode cL_law 797 = .ok (.iaload, 1) := by decide +kernel
theorem dL_law_798 : decode cL_law 798 = .ok (.invokevirtual 103, 3) := by decide +kernel
theorem dL_law_801 : decode cL_law 801 = .ok (.aload_n 2, 1) := by decide +kernel
theorem dL_law_802 : decode cL_law 802 = .ok (.aload_n 0, 1) := by decide +kernel
theorem dL_law_803 : decode cL_law 803 = .ok (.iload_n 3, 1) := by decide +kernel
theorem dL_law_804 : decode cL_law 804 = .ok (.iconst 1, 1) := by decide +kernel
theorem dL_law_805 : decode cL_law 805 = .ok (.iadd, 1) := by decide +kernel
theorem dL_law_806 : decode cL_law 806 = .ok (.iaload, 1) := by decide +kernel
theorem dL_law_807 : decode cL_law 807 = .ok (.aload_n 0, 1) := by decide +kernel
theorem dL_law_808 : decode cL_law 808 = .ok (.iload_n 3, 1) := by decide +kernel
theorem dL_law_809 : decode cL_law 809 = .ok (.iconst 2, 1) := by decide +kernel
theorem dL_law_810 : decode cL_law 810 = .ok (.iadd, 1) := by decide +kernel
theorem dL_law_811 : decode cL_law 811 = .ok (.iaload, 1) := by decide +kernel
theorem dL_law_812 : decode cL_law 812 = .ok (.invokevirtual 106, 3) := by decide +kernel
theorem dL_law_815 : decode cL_law 815 = .ok (.if_icmp .eq 371, 3) := by decide +kernel
theorem dL_law_818 : decode cL_law 818 = .ok (.iconst 0, 1) := by decide +kernel
theorem dL_law_819 : decode cL_law 819 = .ok (.ireturn, 1) := by decide +kernel
theorem dL_law_820 : decode cL_law 820 = .ok (.aload_n 1, 1) := by decide +kernel
theorem dL_law_821 : decode cL_law 821 = .ok (.aload_n 0, 1) := by decide +kernel
theorem dL_law_822 : decode cL_law 822 = .ok (.iload_n 3, 1) := by decide +kernel
theorem dL_law_823 : decode cL_law 823 = .ok (.iconst 1, 1) := by decide +kernel
theorem dL_law_824 : decode cL_law 824 = .ok (.iadd, 1) := by decide +kernel
theorem dL_law_825 : decode cL_law 825 = .ok (.iaload, 1) := by decide +kernel
theorem dL_law_826 : decode cL_law 826 = .ok (.invokevirtual 107, 3) := by decide +kernel
theorem dL_law_829 : decode cL_law 829 = .ok (.aload_n 2, 1) := by decide +kernel
theorem dL_law_830 : decode cL_law 830 = .ok (.aload_n 0, 1) := by decide +kernel
theorem dL_law_831 : decode cL_law 831 = .ok (.iload_n 3, 1) := by decide +kernel
theorem dL_law_832 : decode cL_law 832 = .ok (.iconst 1, 1) := by decide +kernel
theorem dL_law_833 : decode cL_law 833 = .ok (.iadd, 1) := by decide +kernel
theorem dL_law_834 : decode cL_law 834 = .ok (.iaload, 1) := by decide +kernel
theorem dL_law_835 : decode cL_law 835 = .ok (.invokevirtual 110, 3) := by decide +kernel
theorem dL_law_838 : decode cL_law 838 = .ok (.if_icmp .eq 348, 3) := by decide +kernel
theorem dL_law_841 : decode cL_law 841 = .ok (.iconst 0, 1) := by decide +kernel
theorem dL_law_842 : decode cL_law 842 = .ok (.ireturn, 1) := by decide +kernel
theorem dL_law_843 : decode cL_law 843 = .ok (.aload_n 1, 1) := by decide +kernel
theorem dL_law_844 : decode cL_law 844 = .ok (.aload_n 0, 1) := by decide +kernel
theorem dL_law_845 : decode cL_law 845 = .ok (.iload_n 3, 1) := by decide +kernel
theorem dL_law_846 : decode cL_law 846 = .ok (.iconst 1, 1) := by decide +kernel
theorem dL_law_847 : decode cL_law 847 = .ok (.iadd, 1) := by decide +kernel
theorem dL_law_848 : decode cL_law 848 = .ok (.iaload, 1) := by decide +kernel
theorem dL_law_849 : decode cL_law 849 = .ok (.aload_n 0, 1) := by decide +kernel
theorem dL_law_850 : decode cL_law 850 = .ok (.iload_n 3, 1) := by decide +kernel
theorem dL_law_851 : decode cL_law 851 = .ok (.iconst 2, 1) := by decide +kernel
theorem dL_law_852 : decode cL_law 852 = .ok (.iadd, 1) := by decide +kernel
theorem dL_law_853 : decode cL_law 853 = .ok (.iaload, 1) := by decide +kernel
theorem dL_law_854 : decode cL_law 854 = .ok (.invokevirtual 111, 3) := by decide +kernel
theorem dL_law_857 : decode cL_law 857 = .ok (.aload_n 2, 1) := by decide +kernel
theorem dL_law_858 : decode cL_law 858 = .ok (.aload_n 0, 1) := by decide +kernel
theorem dL_law_859 : decode cL_law 859 = .ok (.iload_n 3, 1) := by decide +kernel
theorem dL_law_860 : decode cL_law 860 = .ok (.iconst 1, 1) := by decide +kernel
theorem dL_law_861 : decode cL_law 861 = .ok (.iadd, 1) := by decide +kernel
theorem dL_law_862 : decode cL_law 862 = .ok (.iaload, 1) := by decide +kernel
theorem dL_law_863 : decode cL_law 863 = .ok (.aload_n 0, 1) := by decide +kernel
theorem dL_law_864 : decode cL_law 864 = .ok (.iload_n 3, 1) := by decide +kernel
theorem dL_law_865 : decode cL_law 865 = .ok (.iconst 2, 1) := by decide +kernel
theorem dL_law_866 : decode cL_law 866 = .ok (.iadd, 1) := by decide +kernel
theorem dL_law_867 : decode cL_law 867 = .ok (.iaload, 1) := by decide +kernel
theorem dL_law_868 : decode cL_law 868 = .ok (.invokevirtual 114, 3) := by decide +kernel
theorem dL_law_871 : decode cL_law 871 = .ok (.if_icmp .eq 315, 3) := by decide +kernel
theorem dL_law_874 : decode cL_law 874 = .ok (.iconst 0, 1) := by decide +kernel
theorem dL_law_875 : decode cL_law 875 = .ok (.ireturn, 1) := by decide +kernel
theorem dL_law_876 : decode cL_law 876 = .ok (.aload_n 1, 1) := by decide +kernel
theorem dL_law_877 : decode cL_law 877 = .ok (.aload_n 0, 1) := by decide +kernel
theorem dL_law_878 : decode cL_law 878 = .ok (.iload_n 3, 1) := by decide +kernel
theorem dL_law_879 : decode cL_law 879 = .ok (.iconst 1, 1) := by decide +kernel
theorem dL_law_880 : decode cL_law 880 = .ok (.iadd, 1) := by decide +kernel
theorem dL_law_881 : decode cL_law 881 = .ok (.iaload, 1) := by decide +kernel
theorem dL_law_882 : decode cL_law 882 = .ok (.aload_n 0, 1) := by decide +kernel
theorem dL_law_883 : decode cL_law 883 = .ok (.iload_n 3, 1) := by decide +kernel
theorem dL_law_884 : decode cL_law 884 = .ok (.iconst 2, 1) := by decide +kernel
theorem dL_law_885 : decode cL_law 885 = .ok (.iadd, 1) := by decide +kernel
theorem dL_law_886 : decode cL_law 886 = .ok (.iaload, 1) := by decide +kernel
theorem dL_law_887 : decode cL_law 887 = .ok (.aload_n 0, 1) := by decide +kernel
theorem dL_law_888 : decode cL_law 888 = .ok (.iload_n 3, 1) := by decide +kernel
theorem dL_law_889 : decode cL_law 889 = .ok (.iconst 3, 1) := by decide +kernel
theorem dL_law_890 : decode cL_law 890 = .ok (.iadd, 1) := by decide +kernel
theorem dL_law_891 : decode cL_law 891 = .ok (.iaload, 1) := by decide +kernel
theorem dL_law_892 : decode cL_law 892 = .ok (.aload_n 0, 1) := by decide +kernel
theorem dL_law_893 : decode cL_law 893 = .ok (.iload_n 3, 1) := by decide +kernel
theorem dL_law_894 : decode cL_law 894 = .ok (.iconst 4, 1) := by decide +kernel
theorem dL_law_895 : decode cL_law 895 = .ok (.iadd, 1) := by decide +kernel
theorem dL_law_896 : decode cL_law 896 = .ok (.iaload, 1) := by decide +kernel
theorem dL_law_897 : decode cL_law 897 = .ok (.invokevirtual 115, 3) := by decide +kernel
theorem dL_law_900 : decode cL_law 900 = .ok (.aload_n 2, 1) := by decide +kernel
theorem dL_law_901 : decode cL_law 901 = .ok (.aload_n 0, 1) := by decide +kernel
theorem dL_law_902 : decode cL_law 902 = .ok (.iload_n 3, 1) := by decide +kernel
theorem dL_law_903 : decode cL_law 903 = .ok (.iconst 1, 1) := by decide +kernel
theorem dL_law_904 : decode cL_law 904 = .ok (.iadd, 1) := by decide +kernel
theorem dL_law_905 : decode cL_law 905 = .ok (.iaload, 1) := by decide +kernel
theorem dL_law_906 : decode cL_law 906 = .ok (.aload_n 0, 1) := by decide +kernel
theorem dL_law_907 : decode cL_law 907 = .ok (.iload_n 3, 1) := by decide +kernel
theorem dL_law_908 : decode cL_law 908 = .ok (.iconst 2, 1) := by decide +kernel
theorem dL_law_909 : decode cL_law 909 = .ok (.iadd, 1) := by decide +kernel
theorem dL_law_910 : decode cL_law 910 = .ok (.iaload, 1) := by decide +kernel
theorem dL_law_911 : decode cL_law 911 = .ok (.aload_n 0, 1) := by decide +kernel
theorem dL_law_912 : decode cL_law 912 = .ok (.iload_n 3, 1) := by decide +kernel
theorem dL_law_913 : decode cL_law 913 = .ok (.iconst 3, 1) := by decide +kernel
theorem dL_law_914 : decode cL_law 914 = .ok (.iadd, 1) := by decide +kernel
theorem dL_law_915 : decode cL_law 915 = .ok (.iaload, 1) := by decide +kernel
theorem dL_law_916 : decode cL_law 916 = .ok (.aload_n 0, 1) := by decide +kernel
theorem dL_law_917 : decode cL_law 917 = .ok (.iload_n 3, 1) := by decide +kernel
theorem dL_law_918 : decode cL_law 918 = .ok (.iconst 4, 1) := by decide +kernel
theorem dL_law_919 : decode cL_law 919 = .ok (.iadd, 1) := by decide +kernel
theorem dL_law_920 : decode cL_law 920 = .ok (.iaload, 1) := by decide +kernel
theorem dL_law_921 : decode cL_law 921 = .ok (.invokevirtual 118, 3) := by decide +kernel
theorem dL_law_924 : decode cL_law 924 = .ok (.if_icmp .eq 262, 3) := by decide +kernel
theorem dL_law_927 : decode cL_law 927 = .ok (.iconst 0, 1) := by decide +kernel
theorem dL_law_928 : decode cL_law 928 = .ok (.ireturn, 1) := by decide +kernel
theorem dL_law_929 : decode cL_law 929 = .ok (.aload_n 1, 1) := by decide +kernel
theorem dL_law_930 : decode cL_law 930 = .ok (.aload_n 0, 1) := by decide +kernel
theorem dL_law_931 : decode cL_law 931 = .ok (.iload_n 3, 1) := by decide +kernel
theorem dL_law_932 : decode cL_law 932 = .ok (.iconst 1, 1) := by decide +kernel
theorem dL_law_933 : decode cL_law 933 = .ok (.iadd, 1) := by decide +kernel
theorem dL_law_934 : decode cL_law 934 = .ok (.iaload, 1) := by decide +kernel
theorem dL_law_935 : decode cL_law 935 = .ok (.invokevirtual 119, 3) := by decide +kernel
theorem dL_law_938 : decode cL_law 938 = .ok (.aload_n 2, 1) := by decide +kernel
theorem dL_law_939 : decode cL_law 939 = .ok (.aload_n 0, 1) := by decide +kernel
theorem dL_law_940 : decode cL_law 940 = .ok (.iload_n 3, 1) := by decide +kernel
theorem dL_law_941 : decode cL_law 941 = .ok (.iconst 1, 1) := by decide +kernel
theorem dL_law_942 : decode cL_law 942 = .ok (.iadd, 1) := by decide +kernel
theorem dL_law_943 : decode cL_law 943 = .ok (.iaload, 1) := by decide +kernel
theorem dL_law_944 : decode cL_law 944 = .ok (.invokevirtual 122, 3) := by decide +kernel
theorem dL_law_947 : decode cL_law 947 = .ok (.if_icmp .eq 239, 3) := by decide +kernel
theorem dL_law_950 : decode cL_law 950 = .ok (.iconst 0, 1) := by decide +kernel
theorem dL_law_951 : decode cL_law 951 = .ok (.ireturn, 1) := by decide +kernel
theorem dL_law_952 : decode cL_law 952 = .ok (.aload_n 1, 1) := by decide +kernel
theorem dL_law_953 : decode cL_law 953 = .ok (.aload_n 0, 1) := by decide +kernel
theorem dL_law_954 : decode cL_law 954 = .ok (.iload_n 3, 1) := by decide +kernel
theorem dL_law_955 : decode cL_law 955 = .ok (.iconst 1, 1) := by decide +kernel
theorem dL_law_956 : decode cL_law 956 = .ok (.iadd, 1) := by decide +kernel
theorem dL_law_957 : decode cL_law 957 = .ok (.iaload, 1) := by decide +kernel
theorem dL_law_958 : decode cL_law 958 = .ok (.aload_n 0, 1) := by decide +kernel
theorem dL_law_959 : decode cL_law 959 = .ok (.iload_n 3, 1) := by decide +kernel
theorem dL_law_960 : decode cL_law 960 = .ok (.iconst 2, 1) := by decide +kernel
theorem dL_law_961 : decode cL_law 961 = .ok (.iadd, 1) := by decide +kernel
theorem dL_law_962 : decode cL_law 962 = .ok (.iaload, 1) := by decide +kernel
theorem dL_law_963 : decode cL_law 963 = .ok (.aload_n 0, 1) := by decide +kernel
theorem dL_law_964 : decode cL_law 964 = .ok (.iload_n 3, 1) := by decide +kernel
theorem dL_law_965 : decode cL_law 965 = .ok (.iconst 3, 1) := by decide +kernel
theorem dL_law_966 : decode cL_law 966 = .ok (.iadd, 1) := by decide +kernel
theorem dL_law_967 : decode cL_law 967 = .ok (.iaload, 1) := by decide +kernel
theorem dL_law_968 : decode cL_law 968 = .ok (.invokevirtual 123, 3) := by decide +kernel
theorem dL_law_971 : decode cL_law 971 = .ok (.aload_n 2, 1) := by decide +kernel
theorem dL_law_972 : decode cL_law 972 = .ok (.aload_n 0, 1) := by decide +kernel
theorem dL_law_973 : decode cL_law 973 = .ok (.iload_n 3, 1) := by decide +kernel
theorem dL_law_974 : decode cL_law 974 = .ok (.iconst 1, 1) := by decide +kernel
theorem dL_law_975 : decode cL_law 975 = .ok (.iadd, 1) := by decide +kernel
theorem dL_law_976 : decode cL_law 976 = .ok (.iaload, 1) := by decide +kernel
theorem dL_law_977 : decode cL_law 977 = .ok (.aload_n 0, 1) := by decide +kernel
theorem dL_law_978 : decode cL_law 978 = .ok (.iload_n 3, 1) := by decide +kernel
theorem dL_law_979 : decode cL_law 979 = .ok (.iconst 2, 1) := by decide +kernel
theorem dL_law_980 : decode cL_law 980 = .ok (.iadd, 1) := by decide +kernel
theorem dL_law_981 : decode cL_law 981 = .ok (.iaload, 1) := by decide +kernel
theorem dL_law_982 : decode cL_law 982 = .ok (.aload_n 0, 1) := by decide +kernel
theorem dL_law_983 : decode cL_law 983 = .ok (.iload_n 3, 1) := by decide +kernel
theorem dL_law_984 : decode cL_law 984 = .ok (.iconst 3, 1) := by decide +kernel
theorem dL_law_985 : decode cL_law 985 = .ok (.iadd, 1) := by decide +kernel
theorem dL_law_986 : decode cL_law 986 = .ok (.iaload, 1) := by decide +kernel
theorem dL_law_987 : decode cL_law 987 = .ok (.invokevirtual 126, 3) := by decide +kernel
theorem dL_law_990 : decode cL_law 990 = .ok (.if_icmp .eq 196, 3) := by decide +kernel
theorem dL_law_993 : decode cL_law 993 = .ok (.iconst 0, 1) := by decide +kernel
theorem dL_law_994 : decode cL_law 994 = .ok (.ireturn, 1) := by decide +kernel
theorem dL_law_995 : decode cL_law 995 = .ok (.aload_n 1, 1) := by decide +kernel
theorem dL_law_996 : decode cL_law 996 = .ok (.aload_n 0, 1) := by decide +kernel
theorem dL_law_997 : decode cL_law 997 = .ok (.iload_n 3, 1) := by decide +kernel
theorem dL_law_998 : decode cL_law 998 = .ok (.iconst 1, 1) := by decide +kernel
theorem dL_law_999 : decode cL_law 999 = .ok (.iadd, 1) := by decide +kernel
theorem dL_law_1000 : decode cL_law 1000 = .ok (.iaload, 1) := by decide +kernel
theorem dL_law_1001 : decode cL_law 1001 = .ok (.invokevirtual 127, 3) := by decide +kernel
theorem dL_law_1004 : decode cL_law 1004 = .ok (.aload_n 2, 1) := by decide +kernel
theorem dL_law_1005 : decode cL_law 1005 = .ok (.aload_n 0, 1) := by decide +kernel
theorem dL_law_1006 : decode cL_law 1006 = .ok (.iload_n 3, 1) := by decide +kernel
theorem dL_law_1007 : decode cL_law 1007 = .ok (.iconst 1, 1) := by decide +kernel
theorem dL_law_1008 : decode cL_law 1008 = .ok (.iadd, 1) := by decide +kernel
theorem dL_law_1009 : decode cL_law 1009 = .ok (.iaload, 1) := by decide +kernel
theorem dL_law_1010 : decode cL_law 1010 = .ok (.invokevirtual 130, 3) := by decide +kernel
theorem dL_law_1013 : decode cL_law 1013 = .ok (.if_icmp .eq 173, 3) := by decide +kernel
theorem dL_law_1016 : decode cL_law 1016 = .ok (.iconst 0, 1) := by decide +kernel
theorem dL_law_1017 : decode cL_law 1017 = .ok (.ireturn, 1) := by decide +kernel
theorem dL_law_1018 : decode cL_law 1018 = .ok (.aload_n 1, 1) := by decide +kernel
theorem dL_law_1019 : decode cL_law 1019 = .ok (.aload_n 0, 1) := by decide +kernel
theorem dL_law_1020 : decode cL_law 1020 = .ok (.iload_n 3, 1) := by decide +kernel
theorem dL_law_1021 : decode cL_law 1021 = .ok (.iconst 1, 1) := by decide +kernel
theorem dL_law_1022 : decode cL_law 1022 = .ok (.iadd, 1) := by decide +kernel
theorem dL_law_1023 : decode cL_law 1023 = .ok (.iaload, 1) := by decide +kernel
theorem dL_law_1024 : decode cL_law 1024 = .ok (.invokevirtual 131, 3) := by decide +kernel
theorem dL_law_1027 : decode cL_law 1027 = .ok (.aload_n 2, 1) := by decide +kernel
theorem dL_law_1028 : decode cL_law 1028 = .ok (.aload_n 0, 1) := by decide +kernel
theorem dL_law_1029 : decode cL_law 1029 = .ok (.iload_n 3, 1) := by decide +kernel
theorem dL_law_1030 : decode cL_law 1030 = .ok (.iconst 1, 1) := by decide +kernel
theorem dL_law_1031 : decode cL_law 1031 = .ok (.iadd, 1) := by decide +kernel
theorem dL_law_1032 : decode cL_law 1032 = .ok (.iaload, 1) := by decide +kernel
theorem dL_law_1033 : decode cL_law 1033 = .ok (.invokevirtual 134, 3) := by decide +kernel
theorem dL_law_1036 : decode cL_law 1036 = .ok (.if_icmp .eq 150, 3) := by decide +kernel
theorem dL_law_1039 : decode cL_law 1039 = .ok (.iconst 0, 1) := by decide +kernel
theorem dL_law_1040 : decode cL_law 1040 = .ok (.ireturn, 1) := by decide +kernel
theorem dL_law_1041 : decode cL_law 1041 = .ok (.aload_n 1, 1) := by decide +kernel
theorem dL_law_1042 : decode cL_law 1042 = .ok (.aload_n 0, 1) := by decide +kernel
theorem dL_law_1043 : decode cL_law 1043 = .ok (.iload_n 3, 1) := by decide +kernel
theorem dL_law_1044 : decode cL_law 1044 = .ok (.iconst 1, 1) := by decide +kernel
theorem dL_law_1045 : decode cL_law 1045 = .ok (.iadd, 1) := by decide +kernel
theorem dL_law_1046 : decode cL_law 1046 = .ok (.iaload, 1) := by decide +kernel
theorem dL_law_1047 : decode cL_law 1047 = .ok (.invokevirtual 135, 3) := by decide +kernel
theorem dL_law_1050 : decode cL_law 1050 = .ok (.aload_n 2, 1) := by decide +kernel
theorem dL_law_1051 : decode cL_law 1051 = .ok (.aload_n 0, 1) := by decide +kernel
theorem dL_law_1052 : decode cL_law 1052 = .ok (.iload_n 3, 1) := by decide +kernel
theorem dL_law_1053 : decode cL_law 1053 = .ok (.iconst 1, 1) := by decide +kernel
theorem dL_law_1054 : decode cL_law 1054 = .ok (.iadd, 1) := by decide +kernel
theorem dL_law_1055 : decode cL_law 1055 = .ok (.iaload, 1) := by decide +kernel
theorem dL_law_1056 : decode cL_law 1056 = .ok (.invokevirtual 138, 3) := by decide +kernel
theorem dL_law_1059 : decode cL_law 1059 = .ok (.if_icmp .eq 127, 3) := by decide +kernel
theorem dL_law_1062 : decode cL_law 1062 = .ok (.iconst 0, 1) := by decide +kernel
theorem dL_law_1063 : decode cL_law 1063 = .ok (.ireturn, 1) := by decide +kernel
theorem dL_law_1064 : decode cL_law 1064 = .ok (.aload_n 1, 1) := by decide +kernel
theorem dL_law_1065 : decode cL_law 1065 = .ok (.aload_n 0, 1) := by decide +kernel
theorem dL_law_1066 : decode cL_law 1066 = .ok (.iload_n 3, 1) := by decide +kernel
theorem dL_law_1067 : decode cL_law 1067 = .ok (.iconst 1, 1) := by decide +kernel
theorem dL_law_1068 : decode cL_law 1068 = .ok (.iadd, 1) := by decide +kernel
theorem dL_law_1069 : decode cL_law 1069 = .ok (.iaload, 1) := by decide +kernel
theorem dL_law_1070 : decode cL_law 1070 = .ok (.aload_n 0, 1) := by decide +kernel
theorem dL_law_1071 : decode cL_law 1071 = .ok (.iload_n 3, 1) := by decide +kernel
theorem dL_law_1072 : decode cL_law 1072 = .ok (.iconst 2, 1) := by decide +kernel
theorem dL_law_1073 : decode cL_law 1073 = .ok (.iadd, 1) := by decide +kernel
theorem dL_law_1074 : decode cL_law 1074 = .ok (.iaload, 1) := by decide +kernel
theorem dL_law_1075 : decode cL_law 1075 = .ok (.aload_n 0, 1) := by decide +kernel
theorem dL_law_1076 : decode cL_law 1076 = .ok (.iload_n 3, 1) := by decide +kernel
theorem dL_law_1077 : decode cL_law 1077 = .ok (.iconst 3, 1) := by decide +kernel
theorem dL_law_1078 : decode cL_law 1078 = .ok (.iadd, 1) := by decide +kernel
theorem dL_law_1079 : decode cL_law 1079 = .ok (.iaload, 1) := by decide +kernel
theorem dL_law_1080 : decode cL_law 1080 = .ok (.aload_n 0, 1) := by decide +kernel
theorem dL_law_1081 : decode cL_law 1081 = .ok (.iload_n 3, 1) := by decide +kernel
theorem dL_law_1082 : decode cL_law 1082 = .ok (.iconst 4, 1) := by decide +kernel
theorem dL_law_1083 : decode cL_law 1083 = .ok (.iadd, 1) := by decide +kernel
theorem dL_law_1084 : decode cL_law 1084 = .ok (.iaload, 1) := by decide +kernel
theorem dL_law_1085 : decode cL_law 1085 = .ok (.invokevirtual 139, 3) := by decide +kernel
theorem dL_law_1088 : decode cL_law 1088 = .ok (.aload_n 2, 1) := by decide +kernel
theorem dL_law_1089 : decode cL_law 1089 = .ok (.aload_n 0, 1) := by decide +kernel
theorem dL_law_1090 : decode cL_law 1090 = .ok (.iload_n 3, 1) := by decide +kernel
theorem dL_law_1091 : decode cL_law 1091 = .ok (.iconst 1, 1) := by decide +kernel
theorem dL_law_1092 : decode cL_law 1092 = .ok (.iadd, 1) := by decide +kernel
theorem dL_law_1093 : decode cL_law 1093 = .ok (.iaload, 1) := by decide +kernel
theorem dL_law_1094 : decode cL_law 1094 = .ok (.aload_n 0, 1) := by decide +kernel
theorem dL_law_1095 : decode cL_law 1095 = .ok (.iload_n 3, 1) := by decide +kernel
theorem dL_law_1096 : decode cL_law 1096 = .ok (.iconst 2, 1) := by decide +kernel
theorem dL_law_1097 : decode cL_law 1097 = .ok (.iadd, 1) := by decide +kernel
theorem dL_law_1098 : decode cL_law 1098 = .ok (.iaload, 1) := by decide +kernel
theorem dL_law_1099 : decode cL_law 1099 = .ok (.aload_n 0, 1) := by decide +kernel
theorem dL_law_1100 : decode cL_law 1100 = .ok (.iload_n 3, 1) := by decide +kernel
theorem dL_law_1101 : decode cL_law 1101 = .ok (.iconst 3, 1) := by decide +kernel
theorem dL_law_1102 : decode cL_law 1102 = .ok (.iadd, 1) := by decide +kernel
theorem dL_law_1103 : decode cL_law 1103 = .ok (.iaload, 1) := by decide +kernel
theorem dL_law_1104 : decode cL_law 1104 = .ok (.aload_n 0, 1) := by decide +kernel
theorem dL_law_1105 : decode cL_law 1105 = .ok (.iload_n 3, 1) := by decide +kernel
theorem dL_law_1106 : decode cL_law 1106 = .ok (.iconst 4, 1) := by decide +kernel
theorem dL_law_1107 : decode cL_law 1107 = .ok (.iadd, 1) := by decide +kernel
theorem dL_law_1108 : decode cL_law 1108 = .ok (.iaload, 1) := by decide +kernel
theorem dL_law_1109 : decode cL_law 1109 = .ok (.invokevirtual 142, 3) := by decide +kernel
theorem dL_law_1112 : decode cL_law 1112 = .ok (.if_icmp .eq 74, 3) := by decide +kernel
theorem dL_law_1115 : decode cL_law 1115 = .ok (.iconst 0, 1) := by decide +kernel
theorem dL_law_1116 : decode cL_law 1116 = .ok (.ireturn, 1) := by decide +kernel
theorem dL_law_1117 : decode cL_law 1117 = .ok (.aload_n 1, 1) := by decide +kernel
theorem dL_law_1118 : decode cL_law 1118 = .ok (.aload_n 0, 1) := by decide +kernel
theorem dL_law_1119 : decode cL_law 1119 = .ok (.iload_n 3, 1) := by decide +kernel
theorem dL_law_1120 : decode cL_law 1120 = .ok (.iconst 1, 1) := by decide +kernel
theorem dL_law_1121 : decode cL_law 1121 = .ok (.iadd, 1) := by decide +kernel
theorem dL_law_1122 : decode cL_law 1122 = .ok (.iaload, 1) := by decide +kernel
theorem dL_law_1123 : decode cL_law 1123 = .ok (.invokevirtual 143, 3) := by decide +kernel
theorem dL_law_1126 : decode cL_law 1126 = .ok (.aload_n 2, 1) := by decide +kernel
theorem dL_law_1127 : decode cL_law 1127 = .ok (.aload_n 0, 1) := by decide +kernel
theorem dL_law_1128 : decode cL_law 1128 = .ok (.iload_n 3, 1) := by decide +kernel
theorem dL_law_1129 : decode cL_law 1129 = .ok (.iconst 1, 1) := by decide +kernel
theorem dL_law_1130 : decode cL_law 1130 = .ok (.iadd, 1) := by decide +kernel
theorem dL_law_1131 : decode cL_law 1131 = .ok (.iaload, 1) := by decide +kernel
theorem dL_law_1132 : decode cL_law 1132 = .ok (.invokevirtual 146, 3) := by decide +kernel
theorem dL_law_1135 : decode cL_law 1135 = .ok (.if_icmp .eq 51, 3) := by decide +kernel
theorem dL_law_1138 : decode cL_law 1138 = .ok (.iconst 0, 1) := by decide +kernel
theorem dL_law_1139 : decode cL_law 1139 = .ok (.ireturn, 1) := by decide +kernel
theorem dL_law_1140 : decode cL_law 1140 = .ok (.aload_n 1, 1) := by decide +kernel
theorem dL_law_1141 : decode cL_law 1141 = .ok (.aload_n 0, 1) := by decide +kernel
theorem dL_law_1142 : decode cL_law 1142 = .ok (.iload_n 3, 1) := by decide +kernel
theorem dL_law_1143 : decode cL_law 1143 = .ok (.iconst 1, 1) := by decide +kernel
theorem dL_law_1144 : decode cL_law 1144 = .ok (.iadd, 1) := by decide +kernel
theorem dL_law_1145 : decode cL_law 1145 = .ok (.iaload, 1) := by decide +kernel
theorem dL_law_1146 : decode cL_law 1146 = .ok (.invokevirtual 147, 3) := by decide +kernel
theorem dL_law_1149 : decode cL_law 1149 = .ok (.aload_n 2, 1) := by decide +kernel
theorem dL_law_1150 : decode cL_law 1150 = .ok (.aload_n 0, 1) := by decide +kernel
theorem dL_law_1151 : decode cL_law 1151 = .ok (.iload_n 3, 1) := by decide +kernel
theorem dL_law_1152 : decode cL_law 1152 = .ok (.iconst 1, 1) := by decide +kernel
theorem dL_law_1153 : decode cL_law 1153 = .ok (.iadd, 1) := by decide +kernel
theorem dL_law_1154 : decode cL_law 1154 = .ok (.iaload, 1) := by decide +kernel
theorem dL_law_1155 : decode cL_law 1155 = .ok (.invokevirtual 150, 3) := by decide +kernel
theorem dL_law_1158 : decode cL_law 1158 = .ok (.if_icmp .eq 28, 3) := by decide +kernel
theorem dL_law_1161 : decode cL_law 1161 = .ok (.iconst 0, 1) := by decide +kernel
theorem dL_law_1162 : decode cL_law 1162 = .ok (.ireturn, 1) := by decide +kernel
theorem dL_law_1163 : decode cL_law 1163 = .ok (.aload_n 1, 1) := by decide +kernel
theorem dL_law_1164 : decode cL_law 1164 = .ok (.aload_n 0, 1) := by decide +kernel
theorem dL_law_1165 : decode cL_law 1165 = .ok (.iload_n 3, 1) := by decide +kernel
theorem dL_law_1166 : decode cL_law 1166 = .ok (.iconst 1, 1) := by decide +kernel
theorem dL_law_1167 : decode cL_law 1167 = .ok (.iadd, 1) := by decide +kernel
theorem dL_law_1168 : decode cL_law 1168 = .ok (.iaload, 1) := by decide +kernel
theorem dL_law_1169 : decode cL_law 1169 = .ok (.invokevirtual 151, 3) := by decide +kernel
theorem dL_law_1172 : decode cL_law 1172 = .ok (.aload_n 2, 1) := by decide +kernel
theorem dL_law_1173 : decode cL_law 1173 = .ok (.aload_n 0, 1) := by decide +kernel
theorem dL_law_1174 : decode cL_law 1174 = .ok (.iload_n 3, 1) := by decide +kernel
theorem dL_law_1175 : decode cL_law 1175 = .ok (.iconst 1, 1) := by decide +kernel
theorem dL_law_1176 : decode cL_law 1176 = .ok (.iadd, 1) := by decide +kernel
theorem dL_law_1177 : decode cL_law 1177 = .ok (.iaload, 1) := by decide +kernel
theorem dL_law_1178 : decode cL_law 1178 = .ok (.invokevirtual 154, 3) := by decide +kernel
theorem dL_law_1181 : decode cL_law 1181 = .ok (.if_icmp .eq 5, 3) := by decide +kernel
theorem dL_law_1184 : decode cL_law 1184 = .ok (.iconst 0, 1) := by decide +kernel
theorem dL_law_1185 : decode cL_law 1185 = .ok (.ireturn, 1) := by decide +kernel
theorem dL_law_1186 : decode cL_law 1186 = .ok (.iinc 3 6, 3) := by decide +kernel
theorem dL_law_1189 : decode cL_law 1189 = .ok (.goto (-1171), 3) := by decide +kernel
theorem dL_law_1192 : decode cL_law 1192 = .ok (.iconst 1, 1) := by decide +kernel
theorem dL_law_1193 : decode cL_law 1193 = .ok (.ireturn, 1) := by decide +kernel
def f_L_law_18 (Lx : Nat) (xs : Nat → Int32) (a1 : Nat) (a2 : Nat) (i3 : Int32) (σ : mm_S) : Option (Int32 × mm_S) :=
  lp lpN (fun (k18 : (Int32) → mm_S → Option (Int32 × mm_S)) (v : Int32) (σ : mm_S) =>
    if ((Int32.ofNat Lx) - (6 : Int32)) < v then
      some ((1 : Int32), σ)
    else
      gd v Lx <|
      lt (((xs v.toNatClampNeg) &&& (63 : Int32))) fun x3 =>
      if x3 = 0 then
        gd (v + (1 : Int32)) Lx <|
        gd (v + (2 : Int32)) Lx <|
        gd (v + (3 : Int32)) Lx <|
        gd (v + (4 : Int32)) Lx <|
        gd (v + (5 : Int32)) Lx <|
        bd (f_X9_feed a1 (xs (v + (1 : Int32)).toNatClampNeg) (xs (v + (2 : Int32)).toNatClampNeg) (xs (v + (3 : Int32)).toNatClampNeg) (xs (v + (4 : Int32)).toNatClampNeg) (xs (v + (5 : Int32)).toNatClampNeg) σ) fun r13 σ12 =>
        gd (v + (1 : Int32)) Lx <|
        gd (v + (2 : Int32)) Lx <|
        gd (v + (3 : Int32)) Lx <|
        gd (v + (4 : Int32)) Lx <|
        gd (v + (5 : Int32)) Lx <|
        bd (f_X10_feed a2 (xs (v + (1 : Int32)).toNatClampNeg) (xs (v + (2 : Int32)).toNatClampNeg) (xs (v + (3 : Int32)).toNatClampNeg) (xs (v + (4 : Int32)).toNatClampNeg) (xs (v + (5 : Int32)).toNatClampNeg) σ12) fun r21 σ20 =>
        if r13 = r21 then
          lt (v + Int32.ofInt (6)) fun x23 =>
          k18 x23 σ20
        else
          some ((0 : Int32), σ20)
      else
      if x3 = 1 then
        gd (v + (1 : Int32)) Lx <|
        bd (f_X9_end a1 (xs (v + (1 : Int32)).toNatClampNeg) σ) fun r29 σ28 =>
        gd (v + (1 : Int32)) Lx <|
        bd (f_X10_end a2 (xs (v + (1 : Int32)).toNatClampNeg) σ28) fun r33 σ32 =>
        if r29 = r33 then
          lt (v + Int32.ofInt (6)) fun x35 =>
          k18 x35 σ32
        else
          some ((0 : Int32), σ32)
      else
      if x3 = 2 then
        bd (f_X9_house a1 σ) fun r40 σ39 =>
        bd (f_X10_house a2 σ39) fun r43 σ42 =>
        if r40 = r43 then
          lt (v + Int32.ofInt (6)) fun x45 =>
          k18 x45 σ42
        else
          some ((0 : Int32), σ42)
      else
      if x3 = 3 then
        bd (f_X9_rule a1 σ) fun r50 σ49 =>
        bd (f_X10_rule a2 σ49) fun r53 σ52 =>
        if r50 = r53 then
          lt (v + Int32.ofInt (6)) fun x55 =>
          k18 x55 σ52
        else
          some ((0 : Int32), σ52)
      else
      if x3 = 4 then
        gd (v + (1 : Int32)) Lx <|
        bd (f_X9_force a1 (xs (v + (1 : Int32)).toNatClampNeg) σ) fun r61 σ60 =>
        gd (v + (1 : Int32)) Lx <|
        bd (f_X10_force a2 (xs (v + (1 : Int32)).toNatClampNeg) σ60) fun r65 σ64 =>
        if r61 = r65 then
          lt (v + Int32.ofInt (6)) fun x67 =>
          k18 x67 σ64
        else
          some ((0 : Int32), σ64)
      else
      if x3 = 5 then
        gd (v + (1 : Int32)) Lx <|
        gd (v + (2 : Int32)) Lx <|
        bd (f_X9_lodger a1 (xs (v + (1 : Int32)).toNatClampNeg) (xs (v + (2 : Int32)).toNatClampNeg) σ) fun r74 σ73 =>
        gd (v + (1 : Int32)) Lx <|
        gd (v + (2 : Int32)) Lx <|
        bd (f_X10_lodger a2 (xs (v + (1 : Int32)).toNatClampNeg) (xs (v + (2 : Int32)).toNatClampNeg) σ73) fun r79 σ78 =>
        if r74 = r79 then
          lt (v + Int32.ofInt (6)) fun x81 =>
          k18 x81 σ78
        else
          some ((0 : Int32), σ78)
      else
      if x3 = 6 then
        gd (v + (1 : Int32)) Lx <|
        gd (v + (2 : Int32)) Lx <|
        bd (f_X9_dear a1 (xs (v + (1 : Int32)).toNatClampNeg) (xs (v + (2 : Int32)).toNatClampNeg) σ) fun r88 σ87 =>
        gd (v + (1 : Int32)) Lx <|
        gd (v + (2 : Int32)) Lx <|
        bd (f_X10_dear a2 (xs (v + (1 : Int32)).toNatClampNeg) (xs (v + (2 : Int32)).toNatClampNeg) σ87) fun r93 σ92 =>
        if r88 = r93 then
          lt (v + Int32.ofInt (6)) fun x95 =>
          k18 x95 σ92
        else
          some ((0 : Int32), σ92)
      else
      if x3 = 7 then
        bd (f_X9_hour a1 σ) fun r100 σ99 =>
        bd (f_X10_hour a2 σ99) fun r103 σ102 =>
        if r100 = r103 then
          lt (v + Int32.ofInt (6)) fun x105 =>
          k18 x105 σ102
        else
          some ((0 : Int32), σ102)
      else
      if x3 = 8 then
        gd (v + (1 : Int32)) Lx <|
        gd (v + (2 : Int32)) Lx <|
        bd (f_X9_bid a1 (xs (v + (1 : Int32)).toNatClampNeg) (xs (v + (2 : Int32)).toNatClampNeg) σ) fun r112 σ111 =>
        gd (v + (1 : Int32)) Lx <|
        gd (v + (2 : Int32)) Lx <|
        bd (f_X10_bid a2 (xs (v + (1 : Int32)).toNatClampNeg) (xs (v + (2 : Int32)).toNatClampNeg) σ111) fun r117 σ116 =>
        if r112 = r117 then
          lt (v + Int32.ofInt (6)) fun x119 =>
          k18 x119 σ116
        else
          some ((0 : Int32), σ116)
      else
      if x3 = 9 then
        gd (v + (1 : Int32)) Lx <|
        bd (f_X9_call a1 (xs (v + (1 : Int32)).toNatClampNeg) σ) fun r125 σ124 =>
        gd (v + (1 : Int32)) Lx <|
        bd (f_X10_call a2 (xs (v + (1 : Int32)).toNatClampNeg) σ124) fun r129 σ128 =>
        if r125 = r129 then
          lt (v + Int32.ofInt (6)) fun x131 =>
          k18 x131 σ128
        else
          some ((0 : Int32), σ128)
      else
      if x3 = 10 then
        gd (v + (1 : Int32)) Lx <|
        gd (v + (2 : Int32)) Lx <|
        gd (v + (3 : Int32)) Lx <|
        bd (f_X9_pay a1 (xs (v + (1 : Int32)).toNatClampNeg) (xs (v + (2 : Int32)).toNatClampNeg) (xs (v + (3 : Int32)).toNatClampNeg) σ) fun r139 σ138 =>
        gd (v + (1 : Int32)) Lx <|
        gd (v + (2 : Int32)) Lx <|
        gd (v + (3 : Int32)) Lx <|
        bd (f_X10_pay a2 (xs (v + (1 : Int32)).toNatClampNeg) (xs (v + (2 : Int32)).toNatClampNeg) (xs (v + (3 : Int32)).toNatClampNeg) σ138) fun r145 σ144 =>
        if r139 = r145 then
          lt (v + Int32.ofInt (6)) fun x147 =>
          k18 x147 σ144
        else
          some ((0 : Int32), σ144)
      else
      if x3 = 11 then
        gd (v + (1 : Int32)) Lx <|
        gd (v + (2 : Int32)) Lx <|
        bd (f_X9_tire a1 (xs (v + (1 : Int32)).toNatClampNeg) (xs (v + (2 : Int32)).toNatClampNeg) σ) fun r154 σ153 =>
        gd (v + (1 : Int32)) Lx <|
        gd (v + (2 : Int32)) Lx <|
        bd (f_X10_tire a2 (xs (v + (1 : Int32)).toNatClampNeg) (xs (v + (2 : Int32)).toNatClampNeg) σ153) fun r159 σ158 =>
        if r154 = r159 then
          lt (v + Int32.ofInt (6)) fun x161 =>
          k18 x161 σ158
        else
          some ((0 : Int32), σ158)
      else
      if x3 = 12 then
        bd (f_X9_undo a1 σ) fun r166 σ165 =>
        bd (f_X10_undo a2 σ165) fun r169 σ168 =>
        if r166 = r169 then
          lt (v + Int32.ofInt (6)) fun x171 =>
          k18 x171 σ168
        else
          some ((0 : Int32), σ168)
      else
      if x3 = 13 then
        gd (v + (1 : Int32)) Lx <|
        gd (v + (2 : Int32)) Lx <|
        gd (v + (3 : Int32)) Lx <|
        bd (f_X9_ahead a1 (xs (v + (1 : Int32)).toNatClampNeg) (xs (v + (2 : Int32)).toNatClampNeg) (xs (v + (3 : Int32)).toNatClampNeg) σ) fun r179 σ178 =>
        gd (v + (1 : Int32)) Lx <|
        gd (v + (2 : Int32)) Lx <|
        gd (v + (3 : Int32)) Lx <|
        bd (f_X10_ahead a2 (xs (v + (1 : Int32)).toNatClampNeg) (xs (v + (2 : Int32)).toNatClampNeg) (xs (v + (3 : Int32)).toNatClampNeg) σ178) fun r185 σ184 =>
        if r179 = r185 then
          lt (v + Int32.ofInt (6)) fun x187 =>
          k18 x187 σ184
        else
          some ((0 : Int32), σ184)
      else
      if x3 = 14 then
        gd (v + (1 : Int32)) Lx <|
        bd (f_X9_rested a1 (xs (v + (1 : Int32)).toNatClampNeg) σ) fun r193 σ192 =>
        gd (v + (1 : Int32)) Lx <|
        bd (f_X10_rested a2 (xs (v + (1 : Int32)).toNatClampNeg) σ192) fun r197 σ196 =>
        if r193 = r197 then
          lt (v + Int32.ofInt (6)) fun x199 =>
          k18 x199 σ196
        else
          some ((0 : Int32), σ196)
      else
      if x3 = 15 then
        gd (v + (1 : Int32)) Lx <|
        gd (v + (2 : Int32)) Lx <|
        bd (f_X9_chain a1 (xs (v + (1 : Int32)).toNatClampNeg) (xs (v + (2 : Int32)).toNatClampNeg) σ) fun r206 σ205 =>
        gd (v + (1 : Int32)) Lx <|
        gd (v + (2 : Int32)) Lx <|
        bd (f_X10_chain a2 (xs (v + (1 : Int32)).toNatClampNeg) (xs (v + (2 : Int32)).toNatClampNeg) σ205) fun r211 σ210 =>
        if r206 = r211 then
          lt (v + Int32.ofInt (6)) fun x213 =>
          k18 x213 σ210
        else
          some ((0 : Int32), σ210)
      else
      if x3 = 16 then
        bd (f_X9_lonely a1 σ) fun r218 σ217 =>
        bd (f_X10_lonely a2 σ217) fun r221 σ220 =>
        if r218 = r221 then
          lt (v + Int32.ofInt (6)) fun x223 =>
          k18 x223 σ220
        else
          some ((0 : Int32), σ220)
      else
      if x3 = 17 then
        gd (v + (1 : Int32)) Lx <|
        bd (f_X9_bestRow a1 (xs (v + (1 : Int32)).toNatClampNeg) σ) fun r229 σ228 =>
        gd (v + (1 : Int32)) Lx <|
        bd (f_X10_bestRow a2 (xs (v + (1 : Int32)).toNatClampNeg) σ228) fun r233 σ232 =>
        if r229 = r233 then
          lt (v + Int32.ofInt (6)) fun x235 =>
          k18 x235 σ232
        else
          some ((0 : Int32), σ232)
      else
      if x3 = 18 then
        gd (v + (1 : Int32)) Lx <|
        gd (v + (2 : Int32)) Lx <|
        gd (v + (3 : Int32)) Lx <|
        gd (v + (4 : Int32)) Lx <|
        bd (f_X9_forOne a1 (xs (v + (1 : Int32)).toNatClampNeg) (xs (v + (2 : Int32)).toNatClampNeg) (xs (v + (3 : Int32)).toNatClampNeg) (xs (v + (4 : Int32)).toNatClampNeg) σ) fun r244 σ243 =>
        gd (v + (1 : Int32)) Lx <|
        gd (v + (2 : Int32)) Lx <|
        gd (v + (3 : Int32)) Lx <|
        gd (v + (4 : Int32)) Lx <|
        bd (f_X10_forOne a2 (xs (v + (1 : Int32)).toNatClampNeg) (xs (v + (2 : Int32)).toNatClampNeg) (xs (v + (3 : Int32)).toNatClampNeg) (xs (v + (4 : Int32)).toNatClampNeg) σ243) fun r251 σ250 =>
        if r244 = r251 then
          lt (v + Int32.ofInt (6)) fun x253 =>
          k18 x253 σ250
        else
          some ((0 : Int32), σ250)
      else
      if x3 = 19 then
        gd (v + (1 : Int32)) Lx <|
        bd (f_X9_torches a1 (xs (v + (1 : Int32)).toNatClampNeg) σ) fun r259 σ258 =>
        gd (v + (1 : Int32)) Lx <|
        bd (f_X10_torches a2 (xs (v + (1 : Int32)).toNatClampNeg) σ258) fun r263 σ262 =>
        if r259 = r263 then
          lt (v + Int32.ofInt (6)) fun x265 =>
          k18 x265 σ262
        else
          some ((0 : Int32), σ262)
      else
      if x3 = 20 then
        gd (v + (1 : Int32)) Lx <|
        gd (v + (2 : Int32)) Lx <|
        bd (f_X9_out a1 (xs (v + (1 : Int32)).toNatClampNeg) (xs (v + (2 : Int32)).toNatClampNeg) σ) fun r272 σ271 =>
        gd (v + (1 : Int32)) Lx <|
        gd (v + (2 : Int32)) Lx <|
        bd (f_X10_out a2 (xs (v + (1 : Int32)).toNatClampNeg) (xs (v + (2 : Int32)).toNatClampNeg) σ271) fun r277 σ276 =>
        if r272 = r277 then
          lt (v + Int32.ofInt (6)) fun x279 =>
          k18 x279 σ276
        else
          some ((0 : Int32), σ276)
      else
      if x3 = 21 then
        gd (v + (1 : Int32)) Lx <|
        gd (v + (2 : Int32)) Lx <|
        bd (f_X9_sleeps a1 (xs (v + (1 : Int32)).toNatClampNeg) (xs (v + (2 : Int32)).toNatClampNeg) σ) fun r286 σ285 =>
        gd (v + (1 : Int32)) Lx <|
        gd (v + (2 : Int32)) Lx <|
        bd (f_X10_sleeps a2 (xs (v + (1 : Int32)).toNatClampNeg) (xs (v + (2 : Int32)).toNatClampNeg) σ285) fun r291 σ290 =>
        if r286 = r291 then
          lt (v + Int32.ofInt (6)) fun x293 =>
          k18 x293 σ290
        else
          some ((0 : Int32), σ290)
      else
      if x3 = 22 then
        gd (v + (1 : Int32)) Lx <|
        bd (f_X9_ring a1 (xs (v + (1 : Int32)).toNatClampNeg) σ) fun r299 σ298 =>
        gd (v + (1 : Int32)) Lx <|
        bd (f_X10_ring a2 (xs (v + (1 : Int32)).toNatClampNeg) σ298) fun r303 σ302 =>
        if r299 = r303 then
          lt (v + Int32.ofInt (6)) fun x305 =>
          k18 x305 σ302
        else
          some ((0 : Int32), σ302)
      else
      if x3 = 23 then
        gd (v + (1 : Int32)) Lx <|
        gd (v + (2 : Int32)) Lx <|
        bd (f_X9_pennies a1 (xs (v + (1 : Int32)).toNatClampNeg) (xs (v + (2 : Int32)).toNatClampNeg) σ) fun r312 σ311 =>
        gd (v + (1 : Int32)) Lx <|
        gd (v + (2 : Int32)) Lx <|
        bd (f_X10_pennies a2 (xs (v + (1 : Int32)).toNatClampNeg) (xs (v + (2 : Int32)).toNatClampNeg) σ311) fun r317 σ316 =>
        if r312 = r317 then
          lt (v + Int32.ofInt (6)) fun x319 =>
          k18 x319 σ316
        else
          some ((0 : Int32), σ316)
      else
      if x3 = 24 then
        gd (v + (1 : Int32)) Lx <|
        gd (v + (2 : Int32)) Lx <|
        gd (v + (3 : Int32)) Lx <|
        gd (v + (4 : Int32)) Lx <|
        bd (f_X9_rests a1 (xs (v + (1 : Int32)).toNatClampNeg) (xs (v + (2 : Int32)).toNatClampNeg) (xs (v + (3 : Int32)).toNatClampNeg) (xs (v + (4 : Int32)).toNatClampNeg) σ) fun r328 σ327 =>
        gd (v + (1 : Int32)) Lx <|
        gd (v + (2 : Int32)) Lx <|
        gd (v + (3 : Int32)) Lx <|
        gd (v + (4 : Int32)) Lx <|
        bd (f_X10_rests a2 (xs (v + (1 : Int32)).toNatClampNeg) (xs (v + (2 : Int32)).toNatClampNeg) (xs (v + (3 : Int32)).toNatClampNeg) (xs (v + (4 : Int32)).toNatClampNeg) σ327) fun r335 σ334 =>
        if r328 = r335 then
          lt (v + Int32.ofInt (6)) fun x337 =>
          k18 x337 σ334
        else
          some ((0 : Int32), σ334)
      else
      if x3 = 25 then
        gd (v + (1 : Int32)) Lx <|
        bd (f_X9_stays a1 (xs (v + (1 : Int32)).toNatClampNeg) σ) fun r343 σ342 =>
        gd (v + (1 : Int32)) Lx <|
        bd (f_X10_stays a2 (xs (v + (1 : Int32)).toNatClampNeg) σ342) fun r347 σ346 =>
        if r343 = r347 then
          lt (v + Int32.ofInt (6)) fun x349 =>
          k18 x349 σ346
        else
          some ((0 : Int32), σ346)
      else
      if x3 = 26 then
        gd (v + (1 : Int32)) Lx <|
        gd (v + (2 : Int32)) Lx <|
        gd (v + (3 : Int32)) Lx <|
        bd (f_X9_note a1 (xs (v + (1 : Int32)).toNatClampNeg) (xs (v + (2 : Int32)).toNatClampNeg) (xs (v + (3 : Int32)).toNatClampNeg) σ) fun r357 σ356 =>
        gd (v + (1 : Int32)) Lx <|
        gd (v + (2 : Int32)) Lx <|
        gd (v + (3 : Int32)) Lx <|
        bd (f_X10_note a2 (xs (v + (1 : Int32)).toNatClampNeg) (xs (v + (2 : Int32)).toNatClampNeg) (xs (v + (3 : Int32)).toNatClampNeg) σ356) fun r363 σ362 =>
        if r357 = r363 then
          lt (v + Int32.ofInt (6)) fun x365 =>
          k18 x365 σ362
        else
          some ((0 : Int32), σ362)
      else
      if x3 = 27 then
        gd (v + (1 : Int32)) Lx <|
        bd (f_X9_ruled a1 (xs (v + (1 : Int32)).toNatClampNeg) σ) fun r371 σ370 =>
        gd (v + (1 : Int32)) Lx <|
        bd (f_X10_ruled a2 (xs (v + (1 : Int32)).toNatClampNeg) σ370) fun r375 σ374 =>
        if r371 = r375 then
          lt (v + Int32.ofInt (6)) fun x377 =>
          k18 x377 σ374
        else
          some ((0 : Int32), σ374)
      else
      if x3 = 28 then
        gd (v + (1 : Int32)) Lx <|
        bd (f_X9_look a1 (xs (v + (1 : Int32)).toNatClampNeg) σ) fun r383 σ382 =>
        gd (v + (1 : Int32)) Lx <|
        bd (f_X10_look a2 (xs (v + (1 : Int32)).toNatClampNeg) σ382) fun r387 σ386 =>
        if r383 = r387 then
          lt (v + Int32.ofInt (6)) fun x389 =>
          k18 x389 σ386
        else
          some ((0 : Int32), σ386)
      else
      if x3 = 29 then
        gd (v + (1 : Int32)) Lx <|
        bd (f_X9_seed a1 (xs (v + (1 : Int32)).toNatClampNeg) σ) fun r395 σ394 =>
        gd (v + (1 : Int32)) Lx <|
        bd (f_X10_seed a2 (xs (v + (1 : Int32)).toNatClampNeg) σ394) fun r399 σ398 =>
        if r395 = r399 then
          lt (v + Int32.ofInt (6)) fun x401 =>
          k18 x401 σ398
        else
          some ((0 : Int32), σ398)
      else
      if x3 = 30 then
        gd (v + (1 : Int32)) Lx <|
        gd (v + (2 : Int32)) Lx <|
        gd (v + (3 : Int32)) Lx <|
        gd (v + (4 : Int32)) Lx <|
        bd (f_X9_strangers a1 (xs (v + (1 : Int32)).toNatClampNeg) (xs (v + (2 : Int32)).toNatClampNeg) (xs (v + (3 : Int32)).toNatClampNeg) (xs (v + (4 : Int32)).toNatClampNeg) σ) fun r410 σ409 =>
        gd (v + (1 : Int32)) Lx <|
        gd (v + (2 : Int32)) Lx <|
        gd (v + (3 : Int32)) Lx <|
        gd (v + (4 : Int32)) Lx <|
        bd (f_X10_strangers a2 (xs (v + (1 : Int32)).toNatClampNeg) (xs (v + (2 : Int32)).toNatClampNeg) (xs (v + (3 : Int32)).toNatClampNeg) (xs (v + (4 : Int32)).toNatClampNeg) σ409) fun r417 σ416 =>
        if r410 = r417 then
          lt (v + Int32.ofInt (6)) fun x419 =>
          k18 x419 σ416
        else
          some ((0 : Int32), σ416)
      else
      if x3 = 31 then
        gd (v + (1 : Int32)) Lx <|
        bd (f_X9_count a1 (xs (v + (1 : Int32)).toNatClampNeg) σ) fun r425 σ424 =>
        gd (v + (1 : Int32)) Lx <|
        bd (f_X10_count a2 (xs (v + (1 : Int32)).toNatClampNeg) σ424) fun r429 σ428 =>
        if r425 = r429 then
          lt (v + Int32.ofInt (6)) fun x431 =>
          k18 x431 σ428
        else
          some ((0 : Int32), σ428)
      else
      if x3 = 32 then
        gd (v + (1 : Int32)) Lx <|
        bd (f_X9_image a1 (xs (v + (1 : Int32)).toNatClampNeg) σ) fun r437 σ436 =>
        gd (v + (1 : Int32)) Lx <|
        bd (f_X10_image a2 (xs (v + (1 : Int32)).toNatClampNeg) σ436) fun r441 σ440 =>
        if r437 = r441 then
          lt (v + Int32.ofInt (6)) fun x443 =>
          k18 x443 σ440
        else
          some ((0 : Int32), σ440)
      else
      if x3 = 33 then
        gd (v + (1 : Int32)) Lx <|
        bd (f_X9_back a1 (xs (v + (1 : Int32)).toNatClampNeg) σ) fun r449 σ448 =>
        gd (v + (1 : Int32)) Lx <|
        bd (f_X10_back a2 (xs (v + (1 : Int32)).toNatClampNeg) σ448) fun r453 σ452 =>
        if r449 = r453 then
          lt (v + Int32.ofInt (6)) fun x455 =>
          k18 x455 σ452
        else
          some ((0 : Int32), σ452)
      else
      lt (v + Int32.ofInt (6)) fun x457 =>
      k18 x457 σ) i3 σ
theorem v_L_law_18 {g : mm_G} (d : Nat) {a1 : Nat} {a2 : Nat} {i3 : Int32} {σ : mm_S} {res : Int32 × mm_S}  (h_a1 : (mm_K a1).1 = 9) (h_a2 : (mm_K a2).1 = 10) (h : f_L_law_18 (mg_L g) (mg_xs g) a1 a2 i3 σ = some res) : SVk 240 0 g (d + 46) yy_L_law 18 [(0, .retAddr 0), (1, .ref a1), (2, .ref a2), (3, .int i3)] [] σ (.int res.1) res.2 := by
  unfold f_L_law_18 at h
  refine lp_ind (P := fun v σ => SVk 240 0 g (d + 46) yy_L_law 18 [(0, .retAddr 0), (1, .ref a1), (2, .ref a2), (3, .int v)] [] σ (.int res.1) res.2) (fun k18 H18 v σ h => ?_) _ i3 σ h
  refine e_iload_n 3 dL_law_18 rfl rfl ?_
  refine e_aload_nS 0 dL_law_19 rfl rfl ?_
  refine e_slen dL_law_20 ?_
  refine e_bipush (v := (6 : Int32)) dL_law_21 (by decide) ?_
  refine e_isub dL_law_23 ?_
  refine e_icmp_gt 1192 dL_law_24 (by decide) (fun c1 => ?_) (fun c1 => ?_)
  · rw [if_pos c1] at h
    refine e_iconst (v := (1 : Int32)) dL_law_1192 (by decide) ?_
    obtain rfl := Option.some.inj h
    exact s_ret rfl ⟨_, rfl, nb1 (Or.inr rfl)⟩ dL_law_1193
  · rw [if_neg c1] at h
    refine e_aload_nS 0 dL_law_27 rfl rfl ?_
    refine e_iload_n 3 dL_law_28 rfl rfl ?_
    obtain ⟨q2, h⟩ := gd_some h
    refine e_sld dL_law_29 q2 ?_
    refine e_bipush (v := (63 : Int32)) dL_law_30 (by decide) ?_
    refine e_iand dL_law_32 ?_
    obtain ⟨x3, q4, h⟩ := lt_some h
    refine s_nmi q4 ?_
    by_cases c5 : x3 = 0
    · rw [if_pos c5] at h
      refine s_eqi c5 ?_
      refine e_tabIn 184 dL_law_33 (by decide) (by decide) rfl (by decide) ?_
      refine e_aload_n 1 dL_law_184 rfl rfl ?_
      refine e_aload_nS 0 dL_law_185 rfl rfl ?_
      refine e_iload_n 3 dL_law_186 rfl rfl ?_
      refine e_iconst (v := (1 : Int32)) dL_law_187 (by decide) ?_
      refine e_iadd dL_law_188 ?_
      obtain ⟨q6, h⟩ := gd_some h
      refine e_sld dL_law_189 q6 ?_
      refine e_aload_nS 0 dL_law_190 rfl rfl ?_
      refine e_iload_n 3 dL_law_191 rfl rfl ?_
      refine e_iconst (v := (2 : Int32)) dL_law_192 (by decide) ?_
      refine e_iadd dL_law_193 ?_
      obtain ⟨q7, h⟩ := gd_some h
      refine e_sld dL_law_194 q7 ?_
      refine e_aload_nS 0 dL_law_195 rfl rfl ?_
      refine e_iload_n 3 dL_law_196 rfl rfl ?_
      refine e_iconst (v := (3 : Int32)) dL_law_197 (by decide) ?_
      refine e_iadd dL_law_198 ?_
      obtain ⟨q8, h⟩ := gd_some h
      refine e_sld dL_law_199 q8 ?_
      refine e_aload_nS 0 dL_law_200 rfl rfl ?_
      refine e_iload_n 3 dL_law_201 rfl rfl ?_
      refine e_iconst (v := (4 : Int32)) dL_law_202 (by decide) ?_
      refine e_iadd dL_law_203 ?_
      obtain ⟨q9, h⟩ := gd_some h
      refine e_sld dL_law_204 q9 ?_
      refine e_aload_nS 0 dL_law_205 rfl rfl ?_
      refine e_iload_n 3 dL_law_206 rfl rfl ?_
      refine e_iconst (v := (5 : Int32)) dL_law_207 (by decide) ?_
      refine e_iadd dL_law_208 ?_
      obtain ⟨q10, h⟩ := gd_some h
      refine e_sld dL_law_209 q10 ?_
      obtain ⟨r13, σ12, q11, h⟩ := bd_some h
      refine s_callVi [.int ((mg_xs g) (v + (1 : Int32)).toNatClampNeg), .int ((mg_xs g) (v + (2 : Int32)).toNatClampNeg), .int ((mg_xs g) (v + (3 : Int32)).toNatClampNeg), .int ((mg_xs g) (v + (4 : Int32)).toNatClampNeg), .int ((mg_xs g) (v + (5 : Int32)).toNatClampNeg)] dL_law_210 ml_RL_13 h_a1 ⟨_, rfl, by decide⟩ rfl (v_X9_feed (d + 44) h_a1 q11) (Nat.le_of_ble_eq_true rfl) ?_
      refine e_aload_n 2 dL_law_213 rfl rfl ?_
      refine e_aload_nS 0 dL_law_214 rfl rfl ?_
      refine e_iload_n 3 dL_law_215 rfl rfl ?_
      refine e_iconst (v := (1 : Int32)) dL_law_216 (by decide) ?_
      refine e_iadd dL_law_217 ?_
      obtain ⟨q14, h⟩ := gd_some h
      refine e_sld dL_law_218 q14 ?_
      refine e_aload_nS 0 dL_law_219 rfl rfl ?_
      refine e_iload_n 3 dL_law_220 rfl rfl ?_
      refine e_iconst (v := (2 : Int32)) dL_law_221 (by decide) ?_
      refine e_iadd dL_law_222 ?_
      obtain ⟨q15, h⟩ := gd_some h
      refine e_sld dL_law_223 q15 ?_
      refine e_aload_nS 0 dL_law_224 rfl rfl ?_
      refine e_iload_n 3 dL_law_225 rfl rfl ?_
      refine e_iconst (v := (3 : Int32)) dL_law_226 (by decide) ?_
      refine e_iadd dL_law_227 ?_
      obtain ⟨q16, h⟩ := gd_some h
      refine e_sld dL_law_228 q16 ?_
      refine e_aload_nS 0 dL_law_229 rfl rfl ?_
      refine e_iload_n 3 dL_law_230 rfl rfl ?_
      refine e_iconst (v := (4 : Int32)) dL_law_231 (by decide) ?_
      refine e_iadd dL_law_232 ?_
      obtain ⟨q17, h⟩ := gd_some h
      refine e_sld dL_law_233 q17 ?_
      refine e_aload_nS 0 dL_law_234 rfl rfl ?_
      refine e_iload_n 3 dL_law_235 rfl rfl ?_
      refine e_iconst (v := (5 : Int32)) dL_law_236 (by decide) ?_
      refine e_iadd dL_law_237 ?_
      obtain ⟨q18, h⟩ := gd_some h
      refine e_sld dL_law_238 q18 ?_
      obtain ⟨r21, σ20, q19, h⟩ := bd_some h
      refine s_callVi [.int ((mg_xs g) (v + (1 : Int32)).toNatClampNeg), .int ((mg_xs g) (v + (2 : Int32)).toNatClampNeg), .int ((mg_xs g) (v + (3 : Int32)).toNatClampNeg), .int ((mg_xs g) (v + (4 : Int32)).toNatClampNeg), .int ((mg_xs g) (v + (5 : Int32)).toNatClampNeg)] dL_law_239 ml_RL_17 h_a2 ⟨_, rfl, by decide⟩ rfl (v_X10_feed (d + 44) h_a2 q19) (Nat.le_of_ble_eq_true rfl) ?_
      refine e_icmp_eq 1186 dL_law_242 (by decide) (fun c22 => ?_) (fun c22 => ?_)
      · rw [if_pos c22] at h
        obtain ⟨x23, q24, h⟩ := lt_some h
        refine e_iinc (v := x23) (L' := [(0, .retAddr 0), (1, .ref a1), (2, .ref a2), (3, .int x23)]) 3 dL_law_1186 rfl q24.symm (by decide) rfl ?_
        refine e_goto 18 dL_law_1189 (by decide) ?_
        refine s_pick (L' := [(0, .retAddr 0), (1, .ref a1), (2, .ref a2), (3, .int x23)]) [0, 1, 2, 3] rfl ?_
        exact H18 x23 σ20 h
      · rw [if_neg c22] at h
        refine e_iconst (v := (0 : Int32)) dL_law_245 (by decide) ?_
        obtain rfl := Option.some.inj h
        exact s_ret rfl ⟨_, rfl, nb1 (Or.inl rfl)⟩ dL_law_246
    rw [if_neg c5] at h
    by_cases c25 : x3 = 1
    · rw [if_pos c25] at h
      refine s_eqi c25 ?_
      refine e_tabIn 247 dL_law_33 (by decide) (by decide) rfl (by decide) ?_
      refine e_aload_n 1 dL_law_247 rfl rfl ?_
      refine e_aload_nS 0 dL_law_248 rfl rfl ?_
      refine e_iload_n 3 dL_law_249 rfl rfl ?_
      refine e_iconst (v := (1 : Int32)) dL_law_250 (by decide) ?_
      refine e_iadd dL_law_251 ?_
      obtain ⟨q26, h⟩ := gd_some h
      refine e_sld dL_law_252 q26 ?_
      obtain ⟨r29, σ28, q27, h⟩ := bd_some h
      refine s_callVi [.int ((mg_xs g) (v + (1 : Int32)).toNatClampNeg)] dL_law_253 ml_RL_18 h_a1 ⟨_, rfl, by decide⟩ rfl (v_X9_end (d + 45) h_a1 q27) (Nat.le_of_ble_eq_true rfl) ?_
      refine e_aload_n 2 dL_law_256 rfl rfl ?_
      refine e_aload_nS 0 dL_law_257 rfl rfl ?_
      refine e_iload_n 3 dL_law_258 rfl rfl ?_
      refine e_iconst (v := (1 : Int32)) dL_law_259 (by decide) ?_
      refine e_iadd dL_law_260 ?_
      obtain ⟨q30, h⟩ := gd_some h
      refine e_sld dL_law_261 q30 ?_
      obtain ⟨r33, σ32, q31, h⟩ := bd_some h
      refine s_callVi [.int ((mg_xs g) (v + (1 : Int32)).toNatClampNeg)] dL_law_262 ml_RL_22 h_a2 ⟨_, rfl, by decide⟩ rfl (v_X10_end (d + 45) h_a2 q31) (Nat.le_of_ble_eq_true rfl) ?_
      refine e_icmp_eq 1186 dL_law_265 (by decide) (fun c34 => ?_) (fun c34 => ?_)
      · rw [if_pos c34] at h
        obtain ⟨x35, q36, h⟩ := lt_some h
        refine e_iinc (v := x35) (L' := [(0, .retAddr 0), (1, .ref a1), (2, .ref a2), (3, .int x35)]) 3 dL_law_1186 rfl q36.symm (by decide) rfl ?_
        refine e_goto 18 dL_law_1189 (by decide) ?_
        refine s_pick (L' := [(0, .retAddr 0), (1, .ref a1), (2, .ref a2), (3, .int x35)]) [0, 1, 2, 3] rfl ?_
        exact H18 x35 σ32 h
      · rw [if_neg c34] at h
        refine e_iconst (v := (0 : Int32)) dL_law_268 (by decide) ?_
        obtain rfl := Option.some.inj h
        exact s_ret rfl ⟨_, rfl, nb1 (Or.inl rfl)⟩ dL_law_269
    rw [if_neg c25] at h
    by_cases c37 : x3 = 2
    · rw [if_pos c37] at h
      refine s_eqi c37 ?_
      refine e_tabIn 270 dL_law_33 (by decide) (by decide) rfl (by decide) ?_
      refine e_aload_n 1 dL_law_270 rfl rfl ?_
      obtain ⟨r40, σ39, q38, h⟩ := bd_some h
      refine s_callVi [] dL_law_271 ml_RL_23 h_a1 ⟨_, rfl, by decide⟩ rfl (v_X9_house (d + 37) h_a1 q38) (Nat.le_of_ble_eq_true rfl) ?_
      refine e_aload_n 2 dL_law_274 rfl rfl ?_
      obtain ⟨r43, σ42, q41, h⟩ := bd_some h
      refine s_callVi [] dL_law_275 ml_RL_27 h_a2 ⟨_, rfl, by decide⟩ rfl (v_X10_house (d + 33) h_a2 q41) (Nat.le_of_ble_eq_true rfl) ?_
      refine e_icmp_eq 1186 dL_law_278 (by decide) (fun c44 => ?_) (fun c44 => ?_)
      · rw [if_pos c44] at h
        obtain ⟨x45, q46, h⟩ := lt_some h
        refine e_iinc (v := x45) (L' := [(0, .retAddr 0), (1, .ref a1), (2, .ref a2), (3, .int x45)]) 3 dL_law_1186 rfl q46.symm (by decide) rfl ?_
        refine e_goto 18 dL_law_1189 (by decide) ?_
        refine s_pick (L' := [(0, .retAddr 0), (1, .ref a1), (2, .ref a2), (3, .int x45)]) [0, 1, 2, 3] rfl ?_
        exact H18 x45 σ42 h
      · rw [if_neg c44] at h
        refine e_iconst (v := (0 : Int32)) dL_law_281 (by decide) ?_
        obtain rfl := Option.some.inj h
        exact s_ret rfl ⟨_, rfl, nb1 (Or.inl rfl)⟩ dL_law_282
    rw [if_neg c37] at h
    by_cases c47 : x3 = 3
    · rw [if_pos c47] at h
      refine s_eqi c47 ?_
      refine e_tabIn 283 dL_law_33 (by decide) (by decide) rfl (by decide) ?_
      refine e_aload_n 1 dL_law_283 rfl rfl ?_
      obtain ⟨r50, σ49, q48, h⟩ := bd_some h
      refine s_callVi [] dL_law_284 ml_RL_28 h_a1 ⟨_, rfl, by decide⟩ rfl (v_X9_rule (d + 0) h_a1 q48) (Nat.le_of_ble_eq_true rfl) ?_
      refine e_aload_n 2 dL_law_287 rfl rfl ?_
      obtain ⟨r53, σ52, q51, h⟩ := bd_some h
      refine s_callVi [] dL_law_288 ml_RL_31 h_a2 ⟨_, rfl, by decide⟩ rfl (v_X10_rule (d + 33) h_a2 q51) (Nat.le_of_ble_eq_true rfl) ?_
      refine e_icmp_eq 1186 dL_law_291 (by decide) (fun c54 => ?_) (fun c54 => ?_)
      · rw [if_pos c54] at h
        obtain ⟨x55, q56, h⟩ := lt_some h
        refine e_iinc (v := x55) (L' := [(0, .retAddr 0), (1, .ref a1), (2, .ref a2), (3, .int x55)]) 3 dL_law_1186 rfl q56.symm (by decide) rfl ?_
        refine e_goto 18 dL_law_1189 (by decide) ?_
        refine s_pick (L' := [(0, .retAddr 0), (1, .ref a1), (2, .ref a2), (3, .int x55)]) [0, 1, 2, 3] rfl ?_
        exact H18 x55 σ52 h
      · rw [if_neg c54] at h
        refine e_iconst (v := (0 : Int32)) dL_law_294 (by decide) ?_
        obtain rfl := Option.some.inj h
        exact s_ret rfl ⟨_, rfl, nb1 (Or.inl rfl)⟩ dL_law_295
    rw [if_neg c47] at h
    by_cases c57 : x3 = 4
    · rw [if_pos c57] at h
      refine s_eqi c57 ?_
      refine e_tabIn 296 dL_law_33 (by decide) (by decide) rfl (by decide) ?_
      refine e_aload_n 1 dL_law_296 rfl rfl ?_
      refine e_aload_nS 0 dL_law_297 rfl rfl ?_
      refine e_iload_n 3 dL_law_298 rfl rfl ?_
      refine e_iconst (v := (1 : Int32)) dL_law_299 (by decide) ?_
      refine e_iadd dL_law_300 ?_
      obtain ⟨q58, h⟩ := gd_some h
      refine e_sld dL_law_301 q58 ?_
      obtain ⟨r61, σ60, q59, h⟩ := bd_some h
      refine s_callVi [.int ((mg_xs g) (v + (1 : Int32)).toNatClampNeg)] dL_law_302 ml_RL_32 h_a1 ⟨_, rfl, by decide⟩ rfl (v_X9_force (d + 45) h_a1 q59) (Nat.le_of_ble_eq_true rfl) ?_
      refine e_aload_n 2 dL_law_305 rfl rfl ?_
      refine e_aload_nS 0 dL_law_306 rfl rfl ?_
      refine e_iload_n 3 dL_law_307 rfl rfl ?_
      refine e_iconst (v := (1 : Int32)) dL_law_308 (by decide) ?_
      refine e_iadd dL_law_309 ?_
      obtain ⟨q62, h⟩ := gd_some h
      refine e_sld dL_law_310 q62 ?_
      obtain ⟨r65, σ64, q63, h⟩ := bd_some h
      refine s_callVi [.int ((mg_xs g) (v + (1 : Int32)).toNatClampNeg)] dL_law_311 ml_RL_35 h_a2 ⟨_, rfl, by decide⟩ rfl (v_X10_force (d + 44) h_a2 q63) (Nat.le_of_ble_eq_true rfl) ?_
      refine e_icmp_eq 1186 dL_law_314 (by decide) (fun c66 => ?_) (fun c66 => ?_)
      · rw [if_pos c66] at h
        obtain ⟨x67, q68, h⟩ := lt_some h
        refine e_iinc (v := x67) (L' := [(0, .retAddr 0), (1, .ref a1), (2, .ref a2), (3, .int x67)]) 3 dL_law_1186 rfl q68.symm (by decide) rfl ?_
        refine e_goto 18 dL_law_1189 (by decide) ?_
        refine s_pick (L' := [(0, .retAddr 0), (1, .ref a1), (2, .ref a2), (3, .int x67)]) [0, 1, 2, 3] rfl ?_
        exact H18 x67 σ64 h
      · rw [if_neg c66] at h
        refine e_iconst (v := (0 : Int32)) dL_law_317 (by decide) ?_
        obtain rfl := Option.some.inj h
        exact s_ret rfl ⟨_, rfl, nb1 (Or.inl rfl)⟩ dL_law_318
    rw [if_neg c57] at h
    by_cases c69 : x3 = 5
    · rw [if_pos c69] at h
      refine s_eqi c69 ?_
      refine e_tabIn 319 dL_law_33 (by decide) (by decide) rfl (by decide) ?_
      refine e_aload_n 1 dL_law_319 rfl rfl ?_
      refine e_aload_nS 0 dL_law_320 rfl rfl ?_
      refine e_iload_n 3 dL_law_321 rfl rfl ?_
      refine e_iconst (v := (1 : Int32)) dL_law_322 (by decide) ?_
      refine e_iadd dL_law_323 ?_
      obtain ⟨q70, h⟩ := gd_some h
      refine e_sld dL_law_324 q70 ?_
      refine e_aload_nS 0 dL_law_325 rfl rfl ?_
      refine e_iload_n 3 dL_law_326 rfl rfl ?_
      refine e_iconst (v := (2 : Int32)) dL_law_327 (by decide) ?_
      refine e_iadd dL_law_328 ?_
      obtain ⟨q71, h⟩ := gd_some h
      refine e_sld dL_law_329 q71 ?_
      obtain ⟨r74, σ73, q72, h⟩ := bd_some h
      refine s_callVi [.int ((mg_xs g) (v + (1 : Int32)).toNatClampNeg), .int ((mg_xs g) (v + (2 : Int32)).toNatClampNeg)] dL_law_330 ml_RL_36 h_a1 ⟨_, rfl, by decide⟩ rfl (v_X9_lodger (d + 44) h_a1 q72) (Nat.le_of_ble_eq_true rfl) ?_
      refine e_aload_n 2 dL_law_333 rfl rfl ?_
      refine e_aload_nS 0 dL_law_334 rfl rfl ?_
      refine e_iload_n 3 dL_law_335 rfl rfl ?_
      refine e_iconst (v := (1 : Int32)) dL_law_336 (by decide) ?_
      refine e_iadd dL_law_337 ?_
      obtain ⟨q75, h⟩ := gd_some h
      refine e_sld dL_law_338 q75 ?_
      refine e_aload_nS 0 dL_law_339 rfl rfl ?_
      refine e_iload_n 3 dL_law_340 rfl rfl ?_
      refine e_iconst (v := (2 : Int32)) dL_law_341 (by decide) ?_
      refine e_iadd dL_law_342 ?_
      obtain ⟨q76, h⟩ := gd_some h
      refine e_sld dL_law_343 q76 ?_
      obtain ⟨r79, σ78, q77, h⟩ := bd_some h
      refine s_callVi [.int ((mg_xs g) (v + (1 : Int32)).toNatClampNeg), .int ((mg_xs g) (v + (2 : Int32)).toNatClampNeg)] dL_law_344 ml_RL_40 h_a2 ⟨_, rfl, by decide⟩ rfl (v_X10_lodger (d + 44) h_a2 q77) (Nat.le_of_ble_eq_true rfl) ?_
      refine e_icmp_eq 1186 dL_law_347 (by decide) (fun c80 => ?_) (fun c80 => ?_)
      · rw [if_pos c80] at h
        obtain ⟨x81, q82, h⟩ := lt_some h
        refine e_iinc (v := x81) (L' := [(0, .retAddr 0), (1, .ref a1), (2, .ref a2), (3, .int x81)]) 3 dL_law_1186 rfl q82.symm (by decide) rfl ?_
        refine e_goto 18 dL_law_1189 (by decide) ?_
        refine s_pick (L' := [(0, .retAddr 0), (1, .ref a1), (2, .ref a2), (3, .int x81)]) [0, 1, 2, 3] rfl ?_
        exact H18 x81 σ78 h
      · rw [if_neg c80] at h
        refine e_iconst (v := (0 : Int32)) dL_law_350 (by decide) ?_
        obtain rfl := Option.some.inj h
        exact s_ret rfl ⟨_, rfl, nb1 (Or.inl rfl)⟩ dL_law_351
    rw [if_neg c69] at h
    by_cases c83 : x3 = 6
    · rw [if_pos c83] at h
      refine s_eqi c83 ?_
      refine e_tabIn 352 dL_law_33 (by decide) (by decide) rfl (by decide) ?_
      refine e_aload_n 1 dL_law_352 rfl rfl ?_
      refine e_aload_nS 0 dL_law_353 rfl rfl ?_
      refine e_iload_n 3 dL_law_354 rfl rfl ?_
      refine e_iconst (v := (1 : Int32)) dL_law_355 (by decide) ?_
      refine e_iadd dL_law_356 ?_
      obtain ⟨q84, h⟩ := gd_some h
      refine e_sld dL_law_357 q84 ?_
      refine e_aload_nS 0 dL_law_358 rfl rfl ?_
      refine e_iload_n 3 dL_law_359 rfl rfl ?_
      refine e_iconst (v := (2 : Int32)) dL_law_360 (by decide) ?_
      refine e_iadd dL_law_361 ?_
      obtain ⟨q85, h⟩ := gd_some h
      refine e_sld dL_law_362 q85 ?_
      obtain ⟨r88, σ87, q86, h⟩ := bd_some h
      refine s_callVi [.int ((mg_xs g) (v + (1 : Int32)).toNatClampNeg), .int ((mg_xs g) (v + (2 : Int32)).toNatClampNeg)] dL_law_363 ml_RL_41 h_a1 ⟨_, rfl, by decide⟩ rfl (v_X9_dear (d + 43) h_a1 q86) (Nat.le_of_ble_eq_true rfl) ?_
      refine e_aload_n 2 dL_law_366 rfl rfl ?_
      refine e_aload_nS 0 dL_law_367 rfl rfl ?_
      refine e_iload_n 3 dL_law_368 rfl rfl ?_
      refine e_iconst (v := (1 : Int32)) dL_law_369 (by decide) ?_
      refine e_iadd dL_law_370 ?_
      obtain ⟨q89, h⟩ := gd_some h
      refine e_sld dL_law_371 q89 ?_
      refine e_aload_nS 0 dL_law_372 rfl rfl ?_
      refine e_iload_n 3 dL_law_373 rfl rfl ?_
      refine e_iconst (v := (2 : Int32)) dL_law_374 (by decide) ?_
      refine e_iadd dL_law_375 ?_
      obtain ⟨q90, h⟩ := gd_some h
      refine e_sld dL_law_376 q90 ?_
      obtain ⟨r93, σ92, q91, h⟩ := bd_some h
      refine s_callVi [.int ((mg_xs g) (v + (1 : Int32)).toNatClampNeg), .int ((mg_xs g) (v + (2 : Int32)).toNatClampNeg)] dL_law_377 ml_RL_44 h_a2 ⟨_, rfl, by decide⟩ rfl (v_X10_dear (d + 43) h_a2 q91) (Nat.le_of_ble_eq_true rfl) ?_
      refine e_icmp_eq 1186 dL_law_380 (by decide) (fun c94 => ?_) (fun c94 => ?_)
      · rw [if_pos c94] at h
        obtain ⟨x95, q96, h⟩ := lt_some h
        refine e_iinc (v := x95) (L' := [(0, .retAddr 0), (1, .ref a1), (2, .ref a2), (3, .int x95)]) 3 dL_law_1186 rfl q96.symm (by decide) rfl ?_
        refine e_goto 18 dL_law_1189 (by decide) ?_
        refine s_pick (L' := [(0, .retAddr 0), (1, .ref a1), (2, .ref a2), (3, .int x95)]) [0, 1, 2, 3] rfl ?_
        exact H18 x95 σ92 h
      · rw [if_neg c94] at h
        refine e_iconst (v := (0 : Int32)) dL_law_383 (by decide) ?_
        obtain rfl := Option.some.inj h
        exact s_ret rfl ⟨_, rfl, nb1 (Or.inl rfl)⟩ dL_law_384
    rw [if_neg c83] at h
    by_cases c97 : x3 = 7
    · rw [if_pos c97] at h
      refine s_eqi c97 ?_
      refine e_tabIn 385 dL_law_33 (by decide) (by decide) rfl (by decide) ?_
      refine e_aload_n 1 dL_law_385 rfl rfl ?_
      obtain ⟨r100, σ99, q98, h⟩ := bd_some h
      refine s_callVi [] dL_law_386 ml_RL_45 h_a1 ⟨_, rfl, by decide⟩ rfl (v_X9_hour (d + 40) h_a1 q98) (Nat.le_of_ble_eq_true rfl) ?_
      refine e_aload_n 2 dL_law_389 rfl rfl ?_
      obtain ⟨r103, σ102, q101, h⟩ := bd_some h
      refine s_callVi [] dL_law_390 ml_RL_48 h_a2 ⟨_, rfl, by decide⟩ rfl (v_X10_hour (d + 38) h_a2 q101) (Nat.le_of_ble_eq_true rfl) ?_
      refine e_icmp_eq 1186 dL_law_393 (by decide) (fun c104 => ?_) (fun c104 => ?_)
      · rw [if_pos c104] at h
        obtain ⟨x105, q106, h⟩ := lt_some h
        refine e_iinc (v := x105) (L' := [(0, .retAddr 0), (1, .ref a1), (2, .ref a2), (3, .int x105)]) 3 dL_law_1186 rfl q106.symm (by decide) rfl ?_
        refine e_goto 18 dL_law_1189 (by decide) ?_
        refine s_pick (L' := [(0, .retAddr 0), (1, .ref a1), (2, .ref a2), (3, .int x105)]) [0, 1, 2, 3] rfl ?_
        exact H18 x105 σ102 h
      · rw [if_neg c104] at h
        refine e_iconst (v := (0 : Int32)) dL_law_396 (by decide) ?_
        obtain rfl := Option.some.inj h
        exact s_ret rfl ⟨_, rfl, nb1 (Or.inl rfl)⟩ dL_law_397
    rw [if_neg c97] at h
    by_cases c107 : x3 = 8
    · rw [if_pos c107] at h
      refine s_eqi c107 ?_
      refine e_tabIn 398 dL_law_33 (by decide) (by decide) rfl (by decide) ?_
      refine e_aload_n 1 dL_law_398 rfl rfl ?_
      refine e_aload_nS 0 dL_law_399 rfl rfl ?_
      refine e_iload_n 3 dL_law_400 rfl rfl ?_
      refine e_iconst (v := (1 : Int32)) dL_law_401 (by decide) ?_
      refine e_iadd dL_law_402 ?_
      obtain ⟨q108, h⟩ := gd_some h
      refine e_sld dL_law_403 q108 ?_
      refine e_aload_nS 0 dL_law_404 rfl rfl ?_
      refine e_iload_n 3 dL_law_405 rfl rfl ?_
      refine e_iconst (v := (2 : Int32)) dL_law_406 (by decide) ?_
      refine e_iadd dL_law_407 ?_
      obtain ⟨q109, h⟩ := gd_some h
      refine e_sld dL_law_408 q109 ?_
      obtain ⟨r112, σ111, q110, h⟩ := bd_some h
      refine s_callVi [.int ((mg_xs g) (v + (1 : Int32)).toNatClampNeg), .int ((mg_xs g) (v + (2 : Int32)).toNatClampNeg)] dL_law_409 ml_RL_49 h_a1 ⟨_, rfl, by decide⟩ rfl (v_X9_bid (d + 42) h_a1 q110) (Nat.le_of_ble_eq_true rfl) ?_
      refine e_aload_n 2 dL_law_412 rfl rfl ?_
      refine e_aload_nS 0 dL_law_413 rfl rfl ?_
      refine e_iload_n 3 dL_law_414 rfl rfl ?_
      refine e_iconst (v := (1 : Int32)) dL_law_415 (by decide) ?_
      refine e_iadd dL_law_416 ?_
      obtain ⟨q113, h⟩ := gd_some h
      refine e_sld dL_law_417 q113 ?_
      refine e_aload_nS 0 dL_law_418 rfl rfl ?_
      refine e_iload_n 3 dL_law_419 rfl rfl ?_
      refine e_iconst (v := (2 : Int32)) dL_law_420 (by decide) ?_
      refine e_iadd dL_law_421 ?_
      obtain ⟨q114, h⟩ := gd_some h
      refine e_sld dL_law_422 q114 ?_
      obtain ⟨r117, σ116, q115, h⟩ := bd_some h
      refine s_callVi [.int ((mg_xs g) (v + (1 : Int32)).toNatClampNeg), .int ((mg_xs g) (v + (2 : Int32)).toNatClampNeg)] dL_law_423 ml_RL_52 h_a2 ⟨_, rfl, by decide⟩ rfl (v_X10_bid (d + 43) h_a2 q115) (Nat.le_of_ble_eq_true rfl) ?_
      refine e_icmp_eq 1186 dL_law_426 (by decide) (fun c118 => ?_) (fun c118 => ?_)
      · rw [if_pos c118] at h
        obtain ⟨x119, q120, h⟩ := lt_some h
        refine e_iinc (v := x119) (L' := [(0, .retAddr 0), (1, .ref a1), (2, .ref a2), (3, .int x119)]) 3 dL_law_1186 rfl q120.symm (by decide) rfl ?_
        refine e_goto 18 dL_law_1189 (by decide) ?_
        refine s_pick (L' := [(0, .retAddr 0), (1, .ref a1), (2, .ref a2), (3, .int x119)]) [0, 1, 2, 3] rfl ?_
        exact H18 x119 σ116 h
      · rw [if_neg c118] at h
        refine e_iconst (v := (0 : Int32)) dL_law_429 (by decide) ?_
        obtain rfl := Option.some.inj h
        exact s_ret rfl ⟨_, rfl, nb1 (Or.inl rfl)⟩ dL_law_430
    rw [if_neg c107] at h
    by_cases c121 : x3 = 9
    · rw [if_pos c121] at h
      refine s_eqi c121 ?_
      refine e_tabIn 431 dL_law_33 (by decide) (by decide) rfl (by decide) ?_
      refine e_aload_n 1 dL_law_431 rfl rfl ?_
      refine e_aload_nS 0 dL_law_432 rfl rfl ?_
      refine e_iload_n 3 dL_law_433 rfl rfl ?_
      refine e_iconst (v := (1 : Int32)) dL_law_434 (by decide) ?_
      refine e_iadd dL_law_435 ?_
      obtain ⟨q122, h⟩ := gd_some h
      refine e_sld dL_law_436 q122 ?_
      obtain ⟨r125, σ124, q123, h⟩ := bd_some h
      refine s_callVi [.int ((mg_xs g) (v + (1 : Int32)).toNatClampNeg)] dL_law_437 ml_RL_53 h_a1 ⟨_, rfl, by decide⟩ rfl (v_X9_call (d + 42) h_a1 q123) (Nat.le_of_ble_eq_true rfl) ?_
      refine e_aload_n 2 dL_law_440 rfl rfl ?_
      refine e_aload_nS 0 dL_law_441 rfl rfl ?_
      refine e_iload_n 3 dL_law_442 rfl rfl ?_
      refine e_iconst (v := (1 : Int32)) dL_law_443 (by decide) ?_
      refine e_iadd dL_law_444 ?_
      obtain ⟨q126, h⟩ := gd_some h
      refine e_sld dL_law_445 q126 ?_
      obtain ⟨r129, σ128, q127, h⟩ := bd_some h
      refine s_callVi [.int ((mg_xs g) (v + (1 : Int32)).toNatClampNeg)] dL_law_446 ml_RL_56 h_a2 ⟨_, rfl, by decide⟩ rfl (v_X10_call (d + 43) h_a2 q127) (Nat.le_of_ble_eq_true rfl) ?_
      refine e_icmp_eq 1186 dL_law_449 (by decide) (fun c130 => ?_) (fun c130 => ?_)
      · rw [if_pos c130] at h
        obtain ⟨x131, q132, h⟩ := lt_some h
        refine e_iinc (v := x131) (L' := [(0, .retAddr 0), (1, .ref a1), (2, .ref a2), (3, .int x131)]) 3 dL_law_1186 rfl q132.symm (by decide) rfl ?_
        refine e_goto 18 dL_law_1189 (by decide) ?_
        refine s_pick (L' := [(0, .retAddr 0), (1, .ref a1), (2, .ref a2), (3, .int x131)]) [0, 1, 2, 3] rfl ?_
        exact H18 x131 σ128 h
      · rw [if_neg c130] at h
        refine e_iconst (v := (0 : Int32)) dL_law_452 (by decide) ?_
        obtain rfl := Option.some.inj h
        exact s_ret rfl ⟨_, rfl, nb1 (Or.inl rfl)⟩ dL_law_453
    rw [if_neg c121] at h
    by_cases c133 : x3 = 10
    · rw [if_pos c133] at h
      refine s_eqi c133 ?_
      refine e_tabIn 454 dL_law_33 (by decide) (by decide) rfl (by decide) ?_
      refine e_aload_n 1 dL_law_454 rfl rfl ?_
      refine e_aload_nS 0 dL_law_455 rfl rfl ?_
      refine e_iload_n 3 dL_law_456 rfl rfl ?_
      refine e_iconst (v := (1 : Int32)) dL_law_457 (by decide) ?_
      refine e_iadd dL_law_458 ?_
      obtain ⟨q134, h⟩ := gd_some h
      refine e_sld dL_law_459 q134 ?_
      refine e_aload_nS 0 dL_law_460 rfl rfl ?_
      refine e_iload_n 3 dL_law_461 rfl rfl ?_
      refine e_iconst (v := (2 : Int32)) dL_law_462 (by decide) ?_
      refine e_iadd dL_law_463 ?_
      obtain ⟨q135, h⟩ := gd_some h
      refine e_sld dL_law_464 q135 ?_
      refine e_aload_nS 0 dL_law_465 rfl rfl ?_
      refine e_iload_n 3 dL_law_466 rfl rfl ?_
      refine e_iconst (v := (3 : Int32)) dL_law_467 (by decide) ?_
      refine e_iadd dL_law_468 ?_
      obtain ⟨q136, h⟩ := gd_some h
      refine e_sld dL_law_469 q136 ?_
      obtain ⟨r139, σ138, q137, h⟩ := bd_some h
      refine s_callVi [.int ((mg_xs g) (v + (1 : Int32)).toNatClampNeg), .int ((mg_xs g) (v + (2 : Int32)).toNatClampNeg), .int ((mg_xs g) (v + (3 : Int32)).toNatClampNeg)] dL_law_470 ml_RL_57 h_a1 ⟨_, rfl, by decide⟩ rfl (v_X9_pay (d + 42) h_a1 q137) (Nat.le_of_ble_eq_true rfl) ?_
      refine e_aload_n 2 dL_law_473 rfl rfl ?_
      refine e_aload_nS 0 dL_law_474 rfl rfl ?_
      refine e_iload_n 3 dL_law_475 rfl rfl ?_
      refine e_iconst (v := (1 : Int32)) dL_law_476 (by decide) ?_
      refine e_iadd dL_law_477 ?_
      obtain ⟨q140, h⟩ := gd_some h
      refine e_sld dL_law_478 q140 ?_
      refine e_aload_nS 0 dL_law_479 rfl rfl ?_
      refine e_iload_n 3 dL_law_480 rfl rfl ?_
      refine e_iconst (v := (2 : Int32)) dL_law_481 (by decide) ?_
      refine e_iadd dL_law_482 ?_
      obtain ⟨q141, h⟩ := gd_some h
      refine e_sld dL_law_483 q141 ?_
      refine e_aload_nS 0 dL_law_484 rfl rfl ?_
      refine e_iload_n 3 dL_law_485 rfl rfl ?_
      refine e_iconst (v := (3 : Int32)) dL_law_486 (by decide) ?_
      refine e_iadd dL_law_487 ?_
      obtain ⟨q142, h⟩ := gd_some h
      refine e_sld dL_law_488 q142 ?_
      obtain ⟨r145, σ144, q143, h⟩ := bd_some h
      refine s_callVi [.int ((mg_xs g) (v + (1 : Int32)).toNatClampNeg), .int ((mg_xs g) (v + (2 : Int32)).toNatClampNeg), .int ((mg_xs g) (v + (3 : Int32)).toNatClampNeg)] dL_law_489 ml_RL_61 h_a2 ⟨_, rfl, by decide⟩ rfl (v_X10_pay (d + 43) h_a2 q143) (Nat.le_of_ble_eq_true rfl) ?_
      refine e_icmp_eq 1186 dL_law_492 (by decide) (fun c146 => ?_) (fun c146 => ?_)
      · rw [if_pos c146] at h
        obtain ⟨x147, q148, h⟩ := lt_some h
        refine e_iinc (v := x147) (L' := [(0, .retAddr 0), (1, .ref a1), (2, .ref a2), (3, .int x147)]) 3 dL_law_1186 rfl q148.symm (by decide) rfl ?_
        refine e_goto 18 dL_law_1189 (by decide) ?_
        refine s_pick (L' := [(0, .retAddr 0), (1, .ref a1), (2, .ref a2), (3, .int x147)]) [0, 1, 2, 3] rfl ?_
        exact H18 x147 σ144 h
      · rw [if_neg c146] at h
        refine e_iconst (v := (0 : Int32)) dL_law_495 (by decide) ?_
        obtain rfl := Option.some.inj h
        exact s_ret rfl ⟨_, rfl, nb1 (Or.inl rfl)⟩ dL_law_496
    rw [if_neg c133] at h
    by_cases c149 : x3 = 11
    · rw [if_pos c149] at h
      refine s_eqi c149 ?_
      refine e_tabIn 497 dL_law_33 (by decide) (by decide) rfl (by decide) ?_
      refine e_aload_n 1 dL_law_497 rfl rfl ?_
      refine e_aload_nS 0 dL_law_498 rfl rfl ?_
      refine e_iload_n 3 dL_law_499 rfl rfl ?_
      refine e_iconst (v := (1 : Int32)) dL_law_500 (by decide) ?_
      refine e_iadd dL_law_501 ?_
      obtain ⟨q150, h⟩ := gd_some h
      refine e_sld dL_law_502 q150 ?_
      refine e_aload_nS 0 dL_law_503 rfl rfl ?_
      refine e_iload_n 3 dL_law_504 rfl rfl ?_
      refine e_iconst (v := (2 : Int32)) dL_law_505 (by decide) ?_
      refine e_iadd dL_law_506 ?_
      obtain ⟨q151, h⟩ := gd_some h
      refine e_sld dL_law_507 q151 ?_
      obtain ⟨r154, σ153, q152, h⟩ := bd_some h
      refine s_callVi [.int ((mg_xs g) (v + (1 : Int32)).toNatClampNeg), .int ((mg_xs g) (v + (2 : Int32)).toNatClampNeg)] dL_law_508 ml_RL_62 h_a1 ⟨_, rfl, by decide⟩ rfl (v_X9_tire (d + 42) h_a1 q152) (Nat.le_of_ble_eq_true rfl) ?_
      refine e_aload_n 2 dL_law_511 rfl rfl ?_
      refine e_aload_nS 0 dL_law_512 rfl rfl ?_
      refine e_iload_n 3 dL_law_513 rfl rfl ?_
      refine e_iconst (v := (1 : Int32)) dL_law_514 (by decide) ?_
      refine e_iadd dL_law_515 ?_
      obtain ⟨q155, h⟩ := gd_some h
      refine e_sld dL_law_516 q155 ?_
      refine e_aload_nS 0 dL_law_517 rfl rfl ?_
      refine e_iload_n 3 dL_law_518 rfl rfl ?_
      refine e_iconst (v := (2 : Int32)) dL_law_519 (by decide) ?_
      refine e_iadd dL_law_520 ?_
      obtain ⟨q156, h⟩ := gd_some h
      refine e_sld dL_law_521 q156 ?_
      obtain ⟨r159, σ158, q157, h⟩ := bd_some h
      refine s_callVi [.int ((mg_xs g) (v + (1 : Int32)).toNatClampNeg), .int ((mg_xs g) (v + (2 : Int32)).toNatClampNeg)] dL_law_522 ml_RL_65 h_a2 ⟨_, rfl, by decide⟩ rfl (v_X10_tire (d + 44) h_a2 q157) (Nat.le_of_ble_eq_true rfl) ?_
      refine e_icmp_eq 1186 dL_law_525 (by decide) (fun c160 => ?_) (fun c160 => ?_)
      · rw [if_pos c160] at h
        obtain ⟨x161, q162, h⟩ := lt_some h
        refine e_iinc (v := x161) (L' := [(0, .retAddr 0), (1, .ref a1), (2, .ref a2), (3, .int x161)]) 3 dL_law_1186 rfl q162.symm (by decide) rfl ?_
        refine e_goto 18 dL_law_1189 (by decide) ?_
        refine s_pick (L' := [(0, .retAddr 0), (1, .ref a1), (2, .ref a2), (3, .int x161)]) [0, 1, 2, 3] rfl ?_
        exact H18 x161 σ158 h
      · rw [if_neg c160] at h
        refine e_iconst (v := (0 : Int32)) dL_law_528 (by decide) ?_
        obtain rfl := Option.some.inj h
        exact s_ret rfl ⟨_, rfl, nb1 (Or.inl rfl)⟩ dL_law_529
    rw [if_neg c149] at h
    by_cases c163 : x3 = 12
    · rw [if_pos c163] at h
      refine s_eqi c163 ?_
      refine e_tabIn 530 dL_law_33 (by decide) (by decide) rfl (by decide) ?_
      refine e_aload_n 1 dL_law_530 rfl rfl ?_
      obtain ⟨r166, σ165, q164, h⟩ := bd_some h
      refine s_callVi [] dL_law_531 ml_RL_66 h_a1 ⟨_, rfl, by decide⟩ rfl (v_X9_undo (d + 42) h_a1 q164) (Nat.le_of_ble_eq_true rfl) ?_
      refine e_aload_n 2 dL_law_534 rfl rfl ?_
      obtain ⟨r169, σ168, q167, h⟩ := bd_some h
      refine s_callVi [] dL_law_535 ml_RL_69 h_a2 ⟨_, rfl, by decide⟩ rfl (v_X10_undo (d + 45) h_a2 q167) (Nat.le_of_ble_eq_true rfl) ?_
      refine e_icmp_eq 1186 dL_law_538 (by decide) (fun c170 => ?_) (fun c170 => ?_)
      · rw [if_pos c170] at h
        obtain ⟨x171, q172, h⟩ := lt_some h
        refine e_iinc (v := x171) (L' := [(0, .retAddr 0), (1, .ref a1), (2, .ref a2), (3, .int x171)]) 3 dL_law_1186 rfl q172.symm (by decide) rfl ?_
        refine e_goto 18 dL_law_1189 (by decide) ?_
        refine s_pick (L' := [(0, .retAddr 0), (1, .ref a1), (2, .ref a2), (3, .int x171)]) [0, 1, 2, 3] rfl ?_
        exact H18 x171 σ168 h
      · rw [if_neg c170] at h
        refine e_iconst (v := (0 : Int32)) dL_law_541 (by decide) ?_
        obtain rfl := Option.some.inj h
        exact s_ret rfl ⟨_, rfl, nb1 (Or.inl rfl)⟩ dL_law_542
    rw [if_neg c163] at h
    by_cases c173 : x3 = 13
    · rw [if_pos c173] at h
      refine s_eqi c173 ?_
      refine e_tabIn 543 dL_law_33 (by decide) (by decide) rfl (by decide) ?_
      refine e_aload_n 1 dL_law_543 rfl rfl ?_
      refine e_aload_nS 0 dL_law_544 rfl rfl ?_
      refine e_iload_n 3 dL_law_545 rfl rfl ?_
      refine e_iconst (v := (1 : Int32)) dL_law_546 (by decide) ?_
      refine e_iadd dL_law_547 ?_
      obtain ⟨q174, h⟩ := gd_some h
      refine e_sld dL_law_548 q174 ?_
      refine e_aload_nS 0 dL_law_549 rfl rfl ?_
      refine e_iload_n 3 dL_law_550 rfl rfl ?_
      refine e_iconst (v := (2 : Int32)) dL_law_551 (by decide) ?_
      refine e_iadd dL_law_552 ?_
      obtain ⟨q175, h⟩ := gd_some h
      refine e_sld dL_law_553 q175 ?_
      refine e_aload_nS 0 dL_law_554 rfl rfl ?_
      refine e_iload_n 3 dL_law_555 rfl rfl ?_
      refine e_iconst (v := (3 : Int32)) dL_law_556 (by decide) ?_
      refine e_iadd dL_law_557 ?_
      obtain ⟨q176, h⟩ := gd_some h
      refine e_sld dL_law_558 q176 ?_
      obtain ⟨r179, σ178, q177, h⟩ := bd_some h
      refine s_callVi [.int ((mg_xs g) (v + (1 : Int32)).toNatClampNeg), .int ((mg_xs g) (v + (2 : Int32)).toNatClampNeg), .int ((mg_xs g) (v + (3 : Int32)).toNatClampNeg)] dL_law_559 ml_RL_70 h_a1 ⟨_, rfl, by decide⟩ rfl (v_X9_ahead (d + 40) h_a1 q177) (Nat.le_of_ble_eq_true rfl) ?_
      refine e_aload_n 2 dL_law_562 rfl rfl ?_
      refine e_aload_nS 0 dL_law_563 rfl rfl ?_
      refine e_iload_n 3 dL_law_564 rfl rfl ?_
      refine e_iconst (v := (1 : Int32)) dL_law_565 (by decide) ?_
      refine e_iadd dL_law_566 ?_
      obtain ⟨q180, h⟩ := gd_some h
      refine e_sld dL_law_567 q180 ?_
      refine e_aload_nS 0 dL_law_568 rfl rfl ?_
      refine e_iload_n 3 dL_law_569 rfl rfl ?_
      refine e_iconst (v := (2 : Int32)) dL_law_570 (by decide) ?_
      refine e_iadd dL_law_571 ?_
      obtain ⟨q181, h⟩ := gd_some h
      refine e_sld dL_law_572 q181 ?_
      refine e_aload_nS 0 dL_law_573 rfl rfl ?_
      refine e_iload_n 3 dL_law_574 rfl rfl ?_
      refine e_iconst (v := (3 : Int32)) dL_law_575 (by decide) ?_
      refine e_iadd dL_law_576 ?_
      obtain ⟨q182, h⟩ := gd_some h
      refine e_sld dL_law_577 q182 ?_
      obtain ⟨r185, σ184, q183, h⟩ := bd_some h
      refine s_callVi [.int ((mg_xs g) (v + (1 : Int32)).toNatClampNeg), .int ((mg_xs g) (v + (2 : Int32)).toNatClampNeg), .int ((mg_xs g) (v + (3 : Int32)).toNatClampNeg)] dL_law_578 ml_RL_73 h_a2 ⟨_, rfl, by decide⟩ rfl (v_X10_ahead (d + 37) h_a2 q183) (Nat.le_of_ble_eq_true rfl) ?_
      refine e_icmp_eq 1186 dL_law_581 (by decide) (fun c186 => ?_) (fun c186 => ?_)
      · rw [if_pos c186] at h
        obtain ⟨x187, q188, h⟩ := lt_some h
        refine e_iinc (v := x187) (L' := [(0, .retAddr 0), (1, .ref a1), (2, .ref a2), (3, .int x187)]) 3 dL_law_1186 rfl q188.symm (by decide) rfl ?_
        refine e_goto 18 dL_law_1189 (by decide) ?_
        refine s_pick (L' := [(0, .retAddr 0), (1, .ref a1), (2, .ref a2), (3, .int x187)]) [0, 1, 2, 3] rfl ?_
        exact H18 x187 σ184 h
      · rw [if_neg c186] at h
        refine e_iconst (v := (0 : Int32)) dL_law_584 (by decide) ?_
        obtain rfl := Option.some.inj h
        exact s_ret rfl ⟨_, rfl, nb1 (Or.inl rfl)⟩ dL_law_585
    rw [if_neg c173] at h
    by_cases c189 : x3 = 14
    · rw [if_pos c189] at h
      refine s_eqi c189 ?_
      refine e_tabIn 586 dL_law_33 (by decide) (by decide) rfl (by decide) ?_
      refine e_aload_n 1 dL_law_586 rfl rfl ?_
      refine e_aload_nS 0 dL_law_587 rfl rfl ?_
      refine e_iload_n 3 dL_law_588 rfl rfl ?_
      refine e_iconst (v := (1 : Int32)) dL_law_589 (by decide) ?_
      refine e_iadd dL_law_590 ?_
      obtain ⟨q190, h⟩ := gd_some h
      refine e_sld dL_law_591 q190 ?_
      obtain ⟨r193, σ192, q191, h⟩ := bd_some h
      refine s_callVi [.int ((mg_xs g) (v + (1 : Int32)).toNatClampNeg)] dL_law_592 ml_RL_74 h_a1 ⟨_, rfl, by decide⟩ rfl (v_X9_rested (d + 40) h_a1 q191) (Nat.le_of_ble_eq_true rfl) ?_
      refine e_aload_n 2 dL_law_595 rfl rfl ?_
      refine e_aload_nS 0 dL_law_596 rfl rfl ?_
      refine e_iload_n 3 dL_law_597 rfl rfl ?_
      refine e_iconst (v := (1 : Int32)) dL_law_598 (by decide) ?_
      refine e_iadd dL_law_599 ?_
      obtain ⟨q194, h⟩ := gd_some h
      refine e_sld dL_law_600 q194 ?_
      obtain ⟨r197, σ196, q195, h⟩ := bd_some h
      refine s_callVi [.int ((mg_xs g) (v + (1 : Int32)).toNatClampNeg)] dL_law_601 ml_RL_77 h_a2 ⟨_, rfl, by decide⟩ rfl (v_X10_rested (d + 38) h_a2 q195) (Nat.le_of_ble_eq_true rfl) ?_
      refine e_icmp_eq 1186 dL_law_604 (by decide) (fun c198 => ?_) (fun c198 => ?_)
      · rw [if_pos c198] at h
        obtain ⟨x199, q200, h⟩ := lt_some h
        refine e_iinc (v := x199) (L' := [(0, .retAddr 0), (1, .ref a1), (2, .ref a2), (3, .int x199)]) 3 dL_law_1186 rfl q200.symm (by decide) rfl ?_
        refine e_goto 18 dL_law_1189 (by decide) ?_
        refine s_pick (L' := [(0, .retAddr 0), (1, .ref a1), (2, .ref a2), (3, .int x199)]) [0, 1, 2, 3] rfl ?_
        exact H18 x199 σ196 h
      · rw [if_neg c198] at h
        refine e_iconst (v := (0 : Int32)) dL_law_607 (by decide) ?_
        obtain rfl := Option.some.inj h
        exact s_ret rfl ⟨_, rfl, nb1 (Or.inl rfl)⟩ dL_law_608
    rw [if_neg c189] at h
    by_cases c201 : x3 = 15
    · rw [if_pos c201] at h
      refine s_eqi c201 ?_
      refine e_tabIn 609 dL_law_33 (by decide) (by decide) rfl (by decide) ?_
      refine e_aload_n 1 dL_law_609 rfl rfl ?_
      refine e_aload_nS 0 dL_law_610 rfl rfl ?_
      refine e_iload_n 3 dL_law_611 rfl rfl ?_
      refine e_iconst (v := (1 : Int32)) dL_law_612 (by decide) ?_
      refine e_iadd dL_law_613 ?_
      obtain ⟨q202, h⟩ := gd_some h
      refine e_sld dL_law_614 q202 ?_
      refine e_aload_nS 0 dL_law_615 rfl rfl ?_
      refine e_iload_n 3 dL_law_616 rfl rfl ?_
      refine e_iconst (v := (2 : Int32)) dL_law_617 (by decide) ?_
      refine e_iadd dL_law_618 ?_
      obtain ⟨q203, h⟩ := gd_some h
      refine e_sld dL_law_619 q203 ?_
      obtain ⟨r206, σ205, q204, h⟩ := bd_some h
      refine s_callVi [.int ((mg_xs g) (v + (1 : Int32)).toNatClampNeg), .int ((mg_xs g) (v + (2 : Int32)).toNatClampNeg)] dL_law_620 ml_RL_78 h_a1 ⟨_, rfl, by decide⟩ rfl (v_X9_chain (d + 44) h_a1 q204) (Nat.le_of_ble_eq_true rfl) ?_
      refine e_aload_n 2 dL_law_623 rfl rfl ?_
      refine e_aload_nS 0 dL_law_624 rfl rfl ?_
      refine e_iload_n 3 dL_law_625 rfl rfl ?_
      refine e_iconst (v := (1 : Int32)) dL_law_626 (by decide) ?_
      refine e_iadd dL_law_627 ?_
      obtain ⟨q207, h⟩ := gd_some h
      refine e_sld dL_law_628 q207 ?_
      refine e_aload_nS 0 dL_law_629 rfl rfl ?_
      refine e_iload_n 3 dL_law_630 rfl rfl ?_
      refine e_iconst (v := (2 : Int32)) dL_law_631 (by decide) ?_
      refine e_iadd dL_law_632 ?_
      obtain ⟨q208, h⟩ := gd_some h
      refine e_sld dL_law_633 q208 ?_
      obtain ⟨r211, σ210, q209, h⟩ := bd_some h
      refine s_callVi [.int ((mg_xs g) (v + (1 : Int32)).toNatClampNeg), .int ((mg_xs g) (v + (2 : Int32)).toNatClampNeg)] dL_law_634 ml_RL_81 h_a2 ⟨_, rfl, by decide⟩ rfl (v_X10_chain (d + 44) h_a2 q209) (Nat.le_of_ble_eq_true rfl) ?_
      refine e_icmp_eq 1186 dL_law_637 (by decide) (fun c212 => ?_) (fun c212 => ?_)
      · rw [if_pos c212] at h
        obtain ⟨x213, q214, h⟩ := lt_some h
        refine e_iinc (v := x213) (L' := [(0, .retAddr 0), (1, .ref a1), (2, .ref a2), (3, .int x213)]) 3 dL_law_1186 rfl q214.symm (by decide) rfl ?_
        refine e_goto 18 dL_law_1189 (by decide) ?_
        refine s_pick (L' := [(0, .retAddr 0), (1, .ref a1), (2, .ref a2), (3, .int x213)]) [0, 1, 2, 3] rfl ?_
        exact H18 x213 σ210 h
      · rw [if_neg c212] at h
        refine e_iconst (v := (0 : Int32)) dL_law_640 (by decide) ?_
        obtain rfl := Option.some.inj h
        exact s_ret rfl ⟨_, rfl, nb1 (Or.inl rfl)⟩ dL_law_641
    rw [if_neg c201] at h
    by_cases c215 : x3 = 16
    · rw [if_pos c215] at h
      refine s_eqi c215 ?_
      refine e_tabIn 642 dL_law_33 (by decide) (by decide) rfl (by decide) ?_
      refine e_aload_n 1 dL_law_642 rfl rfl ?_
      obtain ⟨r218, σ217, q216, h⟩ := bd_some h
      refine s_callVi [] dL_law_643 ml_RL_82 h_a1 ⟨_, rfl, by decide⟩ rfl (v_X9_lonely (d + 44) h_a1 q216) (Nat.le_of_ble_eq_true rfl) ?_
      refine e_aload_n 2 dL_law_646 rfl rfl ?_
      obtain ⟨r221, σ220, q219, h⟩ := bd_some h
      refine s_callVi [] dL_law_647 ml_RL_85 h_a2 ⟨_, rfl, by decide⟩ rfl (v_X10_lonely (d + 43) h_a2 q219) (Nat.le_of_ble_eq_true rfl) ?_
      refine e_icmp_eq 1186 dL_law_650 (by decide) (fun c222 => ?_) (fun c222 => ?_)
      · rw [if_pos c222] at h
        obtain ⟨x223, q224, h⟩ := lt_some h
        refine e_iinc (v := x223) (L' := [(0, .retAddr 0), (1, .ref a1), (2, .ref a2), (3, .int x223)]) 3 dL_law_1186 rfl q224.symm (by decide) rfl ?_
        refine e_goto 18 dL_law_1189 (by decide) ?_
        refine s_pick (L' := [(0, .retAddr 0), (1, .ref a1), (2, .ref a2), (3, .int x223)]) [0, 1, 2, 3] rfl ?_
        exact H18 x223 σ220 h
      · rw [if_neg c222] at h
        refine e_iconst (v := (0 : Int32)) dL_law_653 (by decide) ?_
        obtain rfl := Option.some.inj h
        exact s_ret rfl ⟨_, rfl, nb1 (Or.inl rfl)⟩ dL_law_654
    rw [if_neg c215] at h
    by_cases c225 : x3 = 17
    · rw [if_pos c225] at h
      refine s_eqi c225 ?_
      refine e_tabIn 655 dL_law_33 (by decide) (by decide) rfl (by decide) ?_
      refine e_aload_n 1 dL_law_655 rfl rfl ?_
      refine e_aload_nS 0 dL_law_656 rfl rfl ?_
      refine e_iload_n 3 dL_law_657 rfl rfl ?_
      refine e_iconst (v := (1 : Int32)) dL_law_658 (by decide) ?_
      refine e_iadd dL_law_659 ?_
      obtain ⟨q226, h⟩ := gd_some h
      refine e_sld dL_law_660 q226 ?_
      obtain ⟨r229, σ228, q227, h⟩ := bd_some h
      refine s_callVi [.int ((mg_xs g) (v + (1 : Int32)).toNatClampNeg)] dL_law_661 ml_RL_86 h_a1 ⟨_, rfl, by decide⟩ rfl (v_X9_bestRow (d + 42) h_a1 q227) (Nat.le_of_ble_eq_true rfl) ?_
      refine e_aload_n 2 dL_law_664 rfl rfl ?_
      refine e_aload_nS 0 dL_law_665 rfl rfl ?_
      refine e_iload_n 3 dL_law_666 rfl rfl ?_
      refine e_iconst (v := (1 : Int32)) dL_law_667 (by decide) ?_
      refine e_iadd dL_law_668 ?_
      obtain ⟨q230, h⟩ := gd_some h
      refine e_sld dL_law_669 q230 ?_
      obtain ⟨r233, σ232, q231, h⟩ := bd_some h
      refine s_callVi [.int ((mg_xs g) (v + (1 : Int32)).toNatClampNeg)] dL_law_670 ml_RL_89 h_a2 ⟨_, rfl, by decide⟩ rfl (v_X10_bestRow (d + 42) h_a2 q231) (Nat.le_of_ble_eq_true rfl) ?_
      refine e_icmp_eq 1186 dL_law_673 (by decide) (fun c234 => ?_) (fun c234 => ?_)
      · rw [if_pos c234] at h
        obtain ⟨x235, q236, h⟩ := lt_some h
        refine e_iinc (v := x235) (L' := [(0, .retAddr 0), (1, .ref a1), (2, .ref a2), (3, .int x235)]) 3 dL_law_1186 rfl q236.symm (by decide) rfl ?_
        refine e_goto 18 dL_law_1189 (by decide) ?_
        refine s_pick (L' := [(0, .retAddr 0), (1, .ref a1), (2, .ref a2), (3, .int x235)]) [0, 1, 2, 3] rfl ?_
        exact H18 x235 σ232 h
      · rw [if_neg c234] at h
        refine e_iconst (v := (0 : Int32)) dL_law_676 (by decide) ?_
        obtain rfl := Option.some.inj h
        exact s_ret rfl ⟨_, rfl, nb1 (Or.inl rfl)⟩ dL_law_677
    rw [if_neg c225] at h
    by_cases c237 : x3 = 18
    · rw [if_pos c237] at h
      refine s_eqi c237 ?_
      refine e_tabIn 678 dL_law_33 (by decide) (by decide) rfl (by decide) ?_
      refine e_aload_n 1 dL_law_678 rfl rfl ?_
      refine e_aload_nS 0 dL_law_679 rfl rfl ?_
      refine e_iload_n 3 dL_law_680 rfl rfl ?_
      refine e_iconst (v := (1 : Int32)) dL_law_681 (by decide) ?_
      refine e_iadd dL_law_682 ?_
      obtain ⟨q238, h⟩ := gd_some h
      refine e_sld dL_law_683 q238 ?_
      refine e_aload_nS 0 dL_law_684 rfl rfl ?_
      refine e_iload_n 3 dL_law_685 rfl rfl ?_
      refine e_iconst (v := (2 : Int32)) dL_law_686 (by decide) ?_
      refine e_iadd dL_law_687 ?_
      obtain ⟨q239, h⟩ := gd_some h
      refine e_sld dL_law_688 q239 ?_
      refine e_aload_nS 0 dL_law_689 rfl rfl ?_
      refine e_iload_n 3 dL_law_690 rfl rfl ?_
      refine e_iconst (v := (3 : Int32)) dL_law_691 (by decide) ?_
      refine e_iadd dL_law_692 ?_
      obtain ⟨q240, h⟩ := gd_some h
      refine e_sld dL_law_693 q240 ?_
      refine e_aload_nS 0 dL_law_694 rfl rfl ?_
      refine e_iload_n 3 dL_law_695 rfl rfl ?_
      refine e_iconst (v := (4 : Int32)) dL_law_696 (by decide) ?_
      refine e_iadd dL_law_697 ?_
      obtain ⟨q241, h⟩ := gd_some h
      refine e_sld dL_law_698 q241 ?_
      obtain ⟨r244, σ243, q242, h⟩ := bd_some h
      refine s_callVi [.int ((mg_xs g) (v + (1 : Int32)).toNatClampNeg), .int ((mg_xs g) (v + (2 : Int32)).toNatClampNeg), .int ((mg_xs g) (v + (3 : Int32)).toNatClampNeg), .int ((mg_xs g) (v + (4 : Int32)).toNatClampNeg)] dL_law_699 ml_RL_90 h_a1 ⟨_, rfl, by decide⟩ rfl (v_X9_forOne (d + 40) h_a1 q242) (Nat.le_of_ble_eq_true rfl) ?_
      refine e_aload_n 2 dL_law_702 rfl rfl ?_
      refine e_aload_nS 0 dL_law_703 rfl rfl ?_
      refine e_iload_n 3 dL_law_704 rfl rfl ?_
      refine e_iconst (v := (1 : Int32)) dL_law_705 (by decide) ?_
      refine e_iadd dL_law_706 ?_
      obtain ⟨q245, h⟩ := gd_some h
      refine e_sld dL_law_707 q245 ?_
      refine e_aload_nS 0 dL_law_708 rfl rfl ?_
      refine e_iload_n 3 dL_law_709 rfl rfl ?_
      refine e_iconst (v := (2 : Int32)) dL_law_710 (by decide) ?_
      refine e_iadd dL_law_711 ?_
      obtain ⟨q246, h⟩ := gd_some h
      refine e_sld dL_law_712 q246 ?_
      refine e_aload_nS 0 dL_law_713 rfl rfl ?_
      refine e_iload_n 3 dL_law_714 rfl rfl ?_
      refine e_iconst (v := (3 : Int32)) dL_law_715 (by decide) ?_
      refine e_iadd dL_law_716 ?_
      obtain ⟨q247, h⟩ := gd_some h
      refine e_sld dL_law_717 q247 ?_
      refine e_aload_nS 0 dL_law_718 rfl rfl ?_
      refine e_iload_n 3 dL_law_719 rfl rfl ?_
      refine e_iconst (v := (4 : Int32)) dL_law_720 (by decide) ?_
      refine e_iadd dL_law_721 ?_
      obtain ⟨q248, h⟩ := gd_some h
      refine e_sld dL_law_722 q248 ?_
      obtain ⟨r251, σ250, q249, h⟩ := bd_some h
      refine s_callVi [.int ((mg_xs g) (v + (1 : Int32)).toNatClampNeg), .int ((mg_xs g) (v + (2 : Int32)).toNatClampNeg), .int ((mg_xs g) (v + (3 : Int32)).toNatClampNeg), .int ((mg_xs g) (v + (4 : Int32)).toNatClampNeg)] dL_law_723 ml_RL_94 h_a2 ⟨_, rfl, by decide⟩ rfl (v_X10_forOne (d + 37) h_a2 q249) (Nat.le_of_ble_eq_true rfl) ?_
      refine e_icmp_eq 1186 dL_law_726 (by decide) (fun c252 => ?_) (fun c252 => ?_)
      · rw [if_pos c252] at h
        obtain ⟨x253, q254, h⟩ := lt_some h
        refine e_iinc (v := x253) (L' := [(0, .retAddr 0), (1, .ref a1), (2, .ref a2), (3, .int x253)]) 3 dL_law_1186 rfl q254.symm (by decide) rfl ?_
        refine e_goto 18 dL_law_1189 (by decide) ?_
        refine s_pick (L' := [(0, .retAddr 0), (1, .ref a1), (2, .ref a2), (3, .int x253)]) [0, 1, 2, 3] rfl ?_
        exact H18 x253 σ250 h
      · rw [if_neg c252] at h
        refine e_iconst (v := (0 : Int32)) dL_law_729 (by decide) ?_
        obtain rfl := Option.some.inj h
        exact s_ret rfl ⟨_, rfl, nb1 (Or.inl rfl)⟩ dL_law_730
    rw [if_neg c237] at h
    by_cases c255 : x3 = 19
    · rw [if_pos c255] at h
      refine s_eqi c255 ?_
      refine e_tabIn 731 dL_law_33 (by decide) (by decide) rfl (by decide) ?_
      refine e_aload_n 1 dL_law_731 rfl rfl ?_
      refine e_aload_nS 0 dL_law_732 rfl rfl ?_
      refine e_iload_n 3 dL_law_733 rfl rfl ?_
      refine e_iconst (v := (1 : Int32)) dL_law_734 (by decide) ?_
      refine e_iadd dL_law_735 ?_
      obtain ⟨q256, h⟩ := gd_some h
      refine e_sld dL_law_736 q256 ?_
      obtain ⟨r259, σ258, q257, h⟩ := bd_some h
      refine s_callVi [.int ((mg_xs g) (v + (1 : Int32)).toNatClampNeg)] dL_law_737 ml_RL_95 h_a1 ⟨_, rfl, by decide⟩ rfl (v_X9_torches (d + 39) h_a1 q257) (Nat.le_of_ble_eq_true rfl) ?_
      refine e_aload_n 2 dL_law_740 rfl rfl ?_
      refine e_aload_nS 0 dL_law_741 rfl rfl ?_
      refine e_iload_n 3 dL_law_742 rfl rfl ?_
      refine e_iconst (v := (1 : Int32)) dL_law_743 (by decide) ?_
      refine e_iadd dL_law_744 ?_
      obtain ⟨q260, h⟩ := gd_some h
      refine e_sld dL_law_745 q260 ?_
      obtain ⟨r263, σ262, q261, h⟩ := bd_some h
      refine s_callVi [.int ((mg_xs g) (v + (1 : Int32)).toNatClampNeg)] dL_law_746 ml_RL_98 h_a2 ⟨_, rfl, by decide⟩ rfl (v_X10_torches (d + 38) h_a2 q261) (Nat.le_of_ble_eq_true rfl) ?_
      refine e_icmp_eq 1186 dL_law_749 (by decide) (fun c264 => ?_) (fun c264 => ?_)
      · rw [if_pos c264] at h
        obtain ⟨x265, q266, h⟩ := lt_some h
        refine e_iinc (v := x265) (L' := [(0, .retAddr 0), (1, .ref a1), (2, .ref a2), (3, .int x265)]) 3 dL_law_1186 rfl q266.symm (by decide) rfl ?_
        refine e_goto 18 dL_law_1189 (by decide) ?_
        refine s_pick (L' := [(0, .retAddr 0), (1, .ref a1), (2, .ref a2), (3, .int x265)]) [0, 1, 2, 3] rfl ?_
        exact H18 x265 σ262 h
      · rw [if_neg c264] at h
        refine e_iconst (v := (0 : Int32)) dL_law_752 (by decide) ?_
        obtain rfl := Option.some.inj h
        exact s_ret rfl ⟨_, rfl, nb1 (Or.inl rfl)⟩ dL_law_753
    rw [if_neg c255] at h
    by_cases c267 : x3 = 20
    · rw [if_pos c267] at h
      refine s_eqi c267 ?_
      refine e_tabIn 754 dL_law_33 (by decide) (by decide) rfl (by decide) ?_
      refine e_aload_n 1 dL_law_754 rfl rfl ?_
      refine e_aload_nS 0 dL_law_755 rfl rfl ?_
      refine e_iload_n 3 dL_law_756 rfl rfl ?_
      refine e_iconst (v := (1 : Int32)) dL_law_757 (by decide) ?_
      refine e_iadd dL_law_758 ?_
      obtain ⟨q268, h⟩ := gd_some h
      refine e_sld dL_law_759 q268 ?_
      refine e_aload_nS 0 dL_law_760 rfl rfl ?_
      refine e_iload_n 3 dL_law_761 rfl rfl ?_
      refine e_iconst (v := (2 : Int32)) dL_law_762 (by decide) ?_
      refine e_iadd dL_law_763 ?_
      obtain ⟨q269, h⟩ := gd_some h
      refine e_sld dL_law_764 q269 ?_
      obtain ⟨r272, σ271, q270, h⟩ := bd_some h
      refine s_callVi [.int ((mg_xs g) (v + (1 : Int32)).toNatClampNeg), .int ((mg_xs g) (v + (2 : Int32)).toNatClampNeg)] dL_law_765 ml_RL_99 h_a1 ⟨_, rfl, by decide⟩ rfl (v_X9_out (d + 40) h_a1 q270) (Nat.le_of_ble_eq_true rfl) ?_
      refine e_aload_n 2 dL_law_768 rfl rfl ?_
      refine e_aload_nS 0 dL_law_769 rfl rfl ?_
      refine e_iload_n 3 dL_law_770 rfl rfl ?_
      refine e_iconst (v := (1 : Int32)) dL_law_771 (by decide) ?_
      refine e_iadd dL_law_772 ?_
      obtain ⟨q273, h⟩ := gd_some h
      refine e_sld dL_law_773 q273 ?_
      refine e_aload_nS 0 dL_law_774 rfl rfl ?_
      refine e_iload_n 3 dL_law_775 rfl rfl ?_
      refine e_iconst (v := (2 : Int32)) dL_law_776 (by decide) ?_
      refine e_iadd dL_law_777 ?_
      obtain ⟨q274, h⟩ := gd_some h
      refine e_sld dL_law_778 q274 ?_
      obtain ⟨r277, σ276, q275, h⟩ := bd_some h
      refine s_callVi [.int ((mg_xs g) (v + (1 : Int32)).toNatClampNeg), .int ((mg_xs g) (v + (2 : Int32)).toNatClampNeg)] dL_law_779 ml_RL_102 h_a2 ⟨_, rfl, by decide⟩ rfl (v_X10_out (d + 36) h_a2 q275) (Nat.le_of_ble_eq_true rfl) ?_
      refine e_icmp_eq 1186 dL_law_782 (by decide) (fun c278 => ?_) (fun c278 => ?_)
      · rw [if_pos c278] at h
        obtain ⟨x279, q280, h⟩ := lt_some h
        refine e_iinc (v := x279) (L' := [(0, .retAddr 0), (1, .ref a1), (2, .ref a2), (3, .int x279)]) 3 dL_law_1186 rfl q280.symm (by decide) rfl ?_
        refine e_goto 18 dL_law_1189 (by decide) ?_
        refine s_pick (L' := [(0, .retAddr 0), (1, .ref a1), (2, .ref a2), (3, .int x279)]) [0, 1, 2, 3] rfl ?_
        exact H18 x279 σ276 h
      · rw [if_neg c278] at h
        refine e_iconst (v := (0 : Int32)) dL_law_785 (by decide) ?_
        obtain rfl := Option.some.inj h
        exact s_ret rfl ⟨_, rfl, nb1 (Or.inl rfl)⟩ dL_law_786
    rw [if_neg c267] at h
    by_cases c281 : x3 = 21
    · rw [if_pos c281] at h
      refine s_eqi c281 ?_
      refine e_tabIn 787 dL_law_33 (by decide) (by decide) rfl (by decide) ?_
      refine e_aload_n 1 dL_law_787 rfl rfl ?_
      refine e_aload_nS 0 dL_law_788 rfl rfl ?_
      refine e_iload_n 3 dL_law_789 rfl rfl ?_
      refine e_iconst (v := (1 : Int32)) dL_law_790 (by decide) ?_
      refine e_iadd dL_law_791 ?_
      obtain ⟨q282, h⟩ := gd_some h
      refine e_sld dL_law_792 q282 ?_
      refine e_aload_nS 0 dL_law_793 rfl rfl ?_
      refine e_iload_n 3 dL_law_794 rfl rfl ?_
      refine e_iconst (v := (2 : Int32)) dL_law_795 (by decide) ?_
      refine e_iadd dL_law_796 ?_
      obtain ⟨q283, h⟩ := gd_some h
      refine e_sld dL_law_797 q283 ?_
      obtain ⟨r286, σ285, q284, h⟩ := bd_some h
      refine s_callVi [.int ((mg_xs g) (v + (1 : Int32)).toNatClampNeg), .int ((mg_xs g) (v + (2 : Int32)).toNatClampNeg)] dL_law_798 ml_RL_103 h_a1 ⟨_, rfl, by decide⟩ rfl (v_X9_sleeps (d + 40) h_a1 q284) (Nat.le_of_ble_eq_true rfl) ?_
      refine e_aload_n 2 dL_law_801 rfl rfl ?_
      refine e_aload_nS 0 dL_law_802 rfl rfl ?_
      refine e_iload_n 3 dL_law_803 rfl rfl ?_
      refine e_iconst (v := (1 : Int32)) dL_law_804 (by decide) ?_
      refine e_iadd dL_law_805 ?_
      obtain ⟨q287, h⟩ := gd_some h
      refine e_sld dL_law_806 q287 ?_
      refine e_aload_nS 0 dL_law_807 rfl rfl ?_
      refine e_iload_n 3 dL_law_808 rfl rfl ?_
      refine e_iconst (v := (2 : Int32)) dL_law_809 (by decide) ?_
      refine e_iadd dL_law_810 ?_
      obtain ⟨q288, h⟩ := gd_some h
      refine e_sld dL_law_811 q288 ?_
      obtain ⟨r291, σ290, q289, h⟩ := bd_some h
      refine s_callVi [.int ((mg_xs g) (v + (1 : Int32)).toNatClampNeg), .int ((mg_xs g) (v + (2 : Int32)).toNatClampNeg)] dL_law_812 ml_RL_106 h_a2 ⟨_, rfl, by decide⟩ rfl (v_X10_sleeps (d + 37) h_a2 q289) (Nat.le_of_ble_eq_true rfl) ?_
      refine e_icmp_eq 1186 dL_law_815 (by decide) (fun c292 => ?_) (fun c292 => ?_)
      · rw [if_pos c292] at h
        obtain ⟨x293, q294, h⟩ := lt_some h
        refine e_iinc (v := x293) (L' := [(0, .retAddr 0), (1, .ref a1), (2, .ref a2), (3, .int x293)]) 3 dL_law_1186 rfl q294.symm (by decide) rfl ?_
        refine e_goto 18 dL_law_1189 (by decide) ?_
        refine s_pick (L' := [(0, .retAddr 0), (1, .ref a1), (2, .ref a2), (3, .int x293)]) [0, 1, 2, 3] rfl ?_
        exact H18 x293 σ290 h
      · rw [if_neg c292] at h
        refine e_iconst (v := (0 : Int32)) dL_law_818 (by decide) ?_
        obtain rfl := Option.some.inj h
        exact s_ret rfl ⟨_, rfl, nb1 (Or.inl rfl)⟩ dL_law_819
    rw [if_neg c281] at h
    by_cases c295 : x3 = 22
    · rw [if_pos c295] at h
      refine s_eqi c295 ?_
      refine e_tabIn 820 dL_law_33 (by decide) (by decide) rfl (by decide) ?_
      refine e_aload_n 1 dL_law_820 rfl rfl ?_
      refine e_aload_nS 0 dL_law_821 rfl rfl ?_
      refine e_iload_n 3 dL_law_822 rfl rfl ?_
      refine e_iconst (v := (1 : Int32)) dL_law_823 (by decide) ?_
      refine e_iadd dL_law_824 ?_
      obtain ⟨q296, h⟩ := gd_some h
      refine e_sld dL_law_825 q296 ?_
      obtain ⟨r299, σ298, q297, h⟩ := bd_some h
      refine s_callVi [.int ((mg_xs g) (v + (1 : Int32)).toNatClampNeg)] dL_law_826 ml_RL_107 h_a1 ⟨_, rfl, by decide⟩ rfl (v_X9_ring (d + 40) h_a1 q297) (Nat.le_of_ble_eq_true rfl) ?_
      refine e_aload_n 2 dL_law_829 rfl rfl ?_
      refine e_aload_nS 0 dL_law_830 rfl rfl ?_
      refine e_iload_n 3 dL_law_831 rfl rfl ?_
      refine e_iconst (v := (1 : Int32)) dL_law_832 (by decide) ?_
      refine e_iadd dL_law_833 ?_
      obtain ⟨q300, h⟩ := gd_some h
      refine e_sld dL_law_834 q300 ?_
      obtain ⟨r303, σ302, q301, h⟩ := bd_some h
      refine s_callVi [.int ((mg_xs g) (v + (1 : Int32)).toNatClampNeg)] dL_law_835 ml_RL_110 h_a2 ⟨_, rfl, by decide⟩ rfl (v_X10_ring (d + 38) h_a2 q301) (Nat.le_of_ble_eq_true rfl) ?_
      refine e_icmp_eq 1186 dL_law_838 (by decide) (fun c304 => ?_) (fun c304 => ?_)
      · rw [if_pos c304] at h
        obtain ⟨x305, q306, h⟩ := lt_some h
        refine e_iinc (v := x305) (L' := [(0, .retAddr 0), (1, .ref a1), (2, .ref a2), (3, .int x305)]) 3 dL_law_1186 rfl q306.symm (by decide) rfl ?_
        refine e_goto 18 dL_law_1189 (by decide) ?_
        refine s_pick (L' := [(0, .retAddr 0), (1, .ref a1), (2, .ref a2), (3, .int x305)]) [0, 1, 2, 3] rfl ?_
        exact H18 x305 σ302 h
      · rw [if_neg c304] at h
        refine e_iconst (v := (0 : Int32)) dL_law_841 (by decide) ?_
        obtain rfl := Option.some.inj h
        exact s_ret rfl ⟨_, rfl, nb1 (Or.inl rfl)⟩ dL_law_842
    rw [if_neg c295] at h
    by_cases c307 : x3 = 23
    · rw [if_pos c307] at h
      refine s_eqi c307 ?_
      refine e_tabIn 843 dL_law_33 (by decide) (by decide) rfl (by decide) ?_
      refine e_aload_n 1 dL_law_843 rfl rfl ?_
      refine e_aload_nS 0 dL_law_844 rfl rfl ?_
      refine e_iload_n 3 dL_law_845 rfl rfl ?_
      refine e_iconst (v := (1 : Int32)) dL_law_846 (by decide) ?_
      refine e_iadd dL_law_847 ?_
      obtain ⟨q308, h⟩ := gd_some h
      refine e_sld dL_law_848 q308 ?_
      refine e_aload_nS 0 dL_law_849 rfl rfl ?_
      refine e_iload_n 3 dL_law_850 rfl rfl ?_
      refine e_iconst (v := (2 : Int32)) dL_law_851 (by decide) ?_
      refine e_iadd dL_law_852 ?_
      obtain ⟨q309, h⟩ := gd_some h
      refine e_sld dL_law_853 q309 ?_
      obtain ⟨r312, σ311, q310, h⟩ := bd_some h
      refine s_callVi [.int ((mg_xs g) (v + (1 : Int32)).toNatClampNeg), .int ((mg_xs g) (v + (2 : Int32)).toNatClampNeg)] dL_law_854 ml_RL_111 h_a1 ⟨_, rfl, by decide⟩ rfl (v_X9_pennies (d + 44) h_a1 q310) (Nat.le_of_ble_eq_true rfl) ?_
      refine e_aload_n 2 dL_law_857 rfl rfl ?_
      refine e_aload_nS 0 dL_law_858 rfl rfl ?_
      refine e_iload_n 3 dL_law_859 rfl rfl ?_
      refine e_iconst (v := (1 : Int32)) dL_law_860 (by decide) ?_
      refine e_iadd dL_law_861 ?_
      obtain ⟨q313, h⟩ := gd_some h
      refine e_sld dL_law_862 q313 ?_
      refine e_aload_nS 0 dL_law_863 rfl rfl ?_
      refine e_iload_n 3 dL_law_864 rfl rfl ?_
      refine e_iconst (v := (2 : Int32)) dL_law_865 (by decide) ?_
      refine e_iadd dL_law_866 ?_
      obtain ⟨q314, h⟩ := gd_some h
      refine e_sld dL_law_867 q314 ?_
      obtain ⟨r317, σ316, q315, h⟩ := bd_some h
      refine s_callVi [.int ((mg_xs g) (v + (1 : Int32)).toNatClampNeg), .int ((mg_xs g) (v + (2 : Int32)).toNatClampNeg)] dL_law_868 ml_RL_114 h_a2 ⟨_, rfl, by decide⟩ rfl (v_X10_pennies (d + 43) h_a2 q315) (Nat.le_of_ble_eq_true rfl) ?_
      refine e_icmp_eq 1186 dL_law_871 (by decide) (fun c318 => ?_) (fun c318 => ?_)
      · rw [if_pos c318] at h
        obtain ⟨x319, q320, h⟩ := lt_some h
        refine e_iinc (v := x319) (L' := [(0, .retAddr 0), (1, .ref a1), (2, .ref a2), (3, .int x319)]) 3 dL_law_1186 rfl q320.symm (by decide) rfl ?_
        refine e_goto 18 dL_law_1189 (by decide) ?_
        refine s_pick (L' := [(0, .retAddr 0), (1, .ref a1), (2, .ref a2), (3, .int x319)]) [0, 1, 2, 3] rfl ?_
        exact H18 x319 σ316 h
      · rw [if_neg c318] at h
        refine e_iconst (v := (0 : Int32)) dL_law_874 (by decide) ?_
        obtain rfl := Option.some.inj h
        exact s_ret rfl ⟨_, rfl, nb1 (Or.inl rfl)⟩ dL_law_875
    rw [if_neg c307] at h
    by_cases c321 : x3 = 24
    · rw [if_pos c321] at h
      refine s_eqi c321 ?_
      refine e_tabIn 876 dL_law_33 (by decide) (by decide) rfl (by decide) ?_
      refine e_aload_n 1 dL_law_876 rfl rfl ?_
      refine e_aload_nS 0 dL_law_877 rfl rfl ?_
      refine e_iload_n 3 dL_law_878 rfl rfl ?_
      refine e_iconst (v := (1 : Int32)) dL_law_879 (by decide) ?_
      refine e_iadd dL_law_880 ?_
      obtain ⟨q322, h⟩ := gd_some h
      refine e_sld dL_law_881 q322 ?_
      refine e_aload_nS 0 dL_law_882 rfl rfl ?_
      refine e_iload_n 3 dL_law_883 rfl rfl ?_
      refine e_iconst (v := (2 : Int32)) dL_law_884 (by decide) ?_
      refine e_iadd dL_law_885 ?_
      obtain ⟨q323, h⟩ := gd_some h
      refine e_sld dL_law_886 q323 ?_
      refine e_aload_nS 0 dL_law_887 rfl rfl ?_
      refine e_iload_n 3 dL_law_888 rfl rfl ?_
      refine e_iconst (v := (3 : Int32)) dL_law_889 (by decide) ?_
      refine e_iadd dL_law_890 ?_
      obtain ⟨q324, h⟩ := gd_some h
      refine e_sld dL_law_891 q324 ?_
      refine e_aload_nS 0 dL_law_892 rfl rfl ?_
      refine e_iload_n 3 dL_law_893 rfl rfl ?_
      refine e_iconst (v := (4 : Int32)) dL_law_894 (by decide) ?_
      refine e_iadd dL_law_895 ?_
      obtain ⟨q325, h⟩ := gd_some h
      refine e_sld dL_law_896 q325 ?_
      obtain ⟨r328, σ327, q326, h⟩ := bd_some h
      refine s_callVi [.int ((mg_xs g) (v + (1 : Int32)).toNatClampNeg), .int ((mg_xs g) (v + (2 : Int32)).toNatClampNeg), .int ((mg_xs g) (v + (3 : Int32)).toNatClampNeg), .int ((mg_xs g) (v + (4 : Int32)).toNatClampNeg)] dL_law_897 ml_RL_115 h_a1 ⟨_, rfl, by decide⟩ rfl (v_X9_rests (d + 39) h_a1 q326) (Nat.le_of_ble_eq_true rfl) ?_
      refine e_aload_n 2 dL_law_900 rfl rfl ?_
      refine e_aload_nS 0 dL_law_901 rfl rfl ?_
      refine e_iload_n 3 dL_law_902 rfl rfl ?_
      refine e_iconst (v := (1 : Int32)) dL_law_903 (by decide) ?_
      refine e_iadd dL_law_904 ?_
      obtain ⟨q329, h⟩ := gd_some h
      refine e_sld dL_law_905 q329 ?_
      refine e_aload_nS 0 dL_law_906 rfl rfl ?_
      refine e_iload_n 3 dL_law_907 rfl rfl ?_
      refine e_iconst (v := (2 : Int32)) dL_law_908 (by decide) ?_
      refine e_iadd dL_law_909 ?_
      obtain ⟨q330, h⟩ := gd_some h
      refine e_sld dL_law_910 q330 ?_
      refine e_aload_nS 0 dL_law_911 rfl rfl ?_
      refine e_iload_n 3 dL_law_912 rfl rfl ?_
      refine e_iconst (v := (3 : Int32)) dL_law_913 (by decide) ?_
      refine e_iadd dL_law_914 ?_
      obtain ⟨q331, h⟩ := gd_some h
      refine e_sld dL_law_915 q331 ?_
      refine e_aload_nS 0 dL_law_916 rfl rfl ?_
      refine e_iload_n 3 dL_law_917 rfl rfl ?_
      refine e_iconst (v := (4 : Int32)) dL_law_918 (by decide) ?_
      refine e_iadd dL_law_919 ?_
      obtain ⟨q332, h⟩ := gd_some h
      refine e_sld dL_law_920 q332 ?_
      obtain ⟨r335, σ334, q333, h⟩ := bd_some h
      refine s_callVi [.int ((mg_xs g) (v + (1 : Int32)).toNatClampNeg), .int ((mg_xs g) (v + (2 : Int32)).toNatClampNeg), .int ((mg_xs g) (v + (3 : Int32)).toNatClampNeg), .int ((mg_xs g) (v + (4 : Int32)).toNatClampNeg)] dL_law_921 ml_RL_118 h_a2 ⟨_, rfl, by decide⟩ rfl (v_X10_rests (d + 36) h_a2 q333) (Nat.le_of_ble_eq_true rfl) ?_
      refine e_icmp_eq 1186 dL_law_924 (by decide) (fun c336 => ?_) (fun c336 => ?_)
      · rw [if_pos c336] at h
        obtain ⟨x337, q338, h⟩ := lt_some h
        refine e_iinc (v := x337) (L' := [(0, .retAddr 0), (1, .ref a1), (2, .ref a2), (3, .int x337)]) 3 dL_law_1186 rfl q338.symm (by decide) rfl ?_
        refine e_goto 18 dL_law_1189 (by decide) ?_
        refine s_pick (L' := [(0, .retAddr 0), (1, .ref a1), (2, .ref a2), (3, .int x337)]) [0, 1, 2, 3] rfl ?_
        exact H18 x337 σ334 h
      · rw [if_neg c336] at h
        refine e_iconst (v := (0 : Int32)) dL_law_927 (by decide) ?_
        obtain rfl := Option.some.inj h
        exact s_ret rfl ⟨_, rfl, nb1 (Or.inl rfl)⟩ dL_law_928
    rw [if_neg c321] at h
    by_cases c339 : x3 = 25
    · rw [if_pos c339] at h
      refine s_eqi c339 ?_
      refine e_tabIn 929 dL_law_33 (by decide) (by decide) rfl (by decide) ?_
      refine e_aload_n 1 dL_law_929 rfl rfl ?_
      refine e_aload_nS 0 dL_law_930 rfl rfl ?_
      refine e_iload_n 3 dL_law_931 rfl rfl ?_
      refine e_iconst (v := (1 : Int32)) dL_law_932 (by decide) ?_
      refine e_iadd dL_law_933 ?_
      obtain ⟨q340, h⟩ := gd_some h
      refine e_sld dL_law_934 q340 ?_
      obtain ⟨r343, σ342, q341, h⟩ := bd_some h
      refine s_callVi [.int ((mg_xs g) (v + (1 : Int32)).toNatClampNeg)] dL_law_935 ml_RL_119 h_a1 ⟨_, rfl, by decide⟩ rfl (v_X9_stays (d + 40) h_a1 q341) (Nat.le_of_ble_eq_true rfl) ?_
      refine e_aload_n 2 dL_law_938 rfl rfl ?_
      refine e_aload_nS 0 dL_law_939 rfl rfl ?_
      refine e_iload_n 3 dL_law_940 rfl rfl ?_
      refine e_iconst (v := (1 : Int32)) dL_law_941 (by decide) ?_
      refine e_iadd dL_law_942 ?_
      obtain ⟨q344, h⟩ := gd_some h
      refine e_sld dL_law_943 q344 ?_
      obtain ⟨r347, σ346, q345, h⟩ := bd_some h
      refine s_callVi [.int ((mg_xs g) (v + (1 : Int32)).toNatClampNeg)] dL_law_944 ml_RL_122 h_a2 ⟨_, rfl, by decide⟩ rfl (v_X10_stays (d + 37) h_a2 q345) (Nat.le_of_ble_eq_true rfl) ?_
      refine e_icmp_eq 1186 dL_law_947 (by decide) (fun c348 => ?_) (fun c348 => ?_)
      · rw [if_pos c348] at h
        obtain ⟨x349, q350, h⟩ := lt_some h
        refine e_iinc (v := x349) (L' := [(0, .retAddr 0), (1, .ref a1), (2, .ref a2), (3, .int x349)]) 3 dL_law_1186 rfl q350.symm (by decide) rfl ?_
        refine e_goto 18 dL_law_1189 (by decide) ?_
        refine s_pick (L' := [(0, .retAddr 0), (1, .ref a1), (2, .ref a2), (3, .int x349)]) [0, 1, 2, 3] rfl ?_
        exact H18 x349 σ346 h
      · rw [if_neg c348] at h
        refine e_iconst (v := (0 : Int32)) dL_law_950 (by decide) ?_
        obtain rfl := Option.some.inj h
        exact s_ret rfl ⟨_, rfl, nb1 (Or.inl rfl)⟩ dL_law_951
    rw [if_neg c339] at h
    by_cases c351 : x3 = 26
    · rw [if_pos c351] at h
      refine s_eqi c351 ?_
      refine e_tabIn 952 dL_law_33 (by decide) (by decide) rfl (by decide) ?_
      refine e_aload_n 1 dL_law_952 rfl rfl ?_
      refine e_aload_nS 0 dL_law_953 rfl rfl ?_
      refine e_iload_n 3 dL_law_954 rfl rfl ?_
      refine e_iconst (v := (1 : Int32)) dL_law_955 (by decide) ?_
      refine e_iadd dL_law_956 ?_
      obtain ⟨q352, h⟩ := gd_some h
      refine e_sld dL_law_957 q352 ?_
      refine e_aload_nS 0 dL_law_958 rfl rfl ?_
      refine e_iload_n 3 dL_law_959 rfl rfl ?_
      refine e_iconst (v := (2 : Int32)) dL_law_960 (by decide) ?_
      refine e_iadd dL_law_961 ?_
      obtain ⟨q353, h⟩ := gd_some h
      refine e_sld dL_law_962 q353 ?_
      refine e_aload_nS 0 dL_law_963 rfl rfl ?_
      refine e_iload_n 3 dL_law_964 rfl rfl ?_
      refine e_iconst (v := (3 : Int32)) dL_law_965 (by decide) ?_
      refine e_iadd dL_law_966 ?_
      obtain ⟨q354, h⟩ := gd_some h
      refine e_sld dL_law_967 q354 ?_
      obtain ⟨r357, σ356, q355, h⟩ := bd_some h
      refine s_callVi [.int ((mg_xs g) (v + (1 : Int32)).toNatClampNeg), .int ((mg_xs g) (v + (2 : Int32)).toNatClampNeg), .int ((mg_xs g) (v + (3 : Int32)).toNatClampNeg)] dL_law_968 ml_RL_123 h_a1 ⟨_, rfl, by decide⟩ rfl (v_X9_note (d + 44) h_a1 q355) (Nat.le_of_ble_eq_true rfl) ?_
      refine e_aload_n 2 dL_law_971 rfl rfl ?_
      refine e_aload_nS 0 dL_law_972 rfl rfl ?_
      refine e_iload_n 3 dL_law_973 rfl rfl ?_
      refine e_iconst (v := (1 : Int32)) dL_law_974 (by decide) ?_
      refine e_iadd dL_law_975 ?_
      obtain ⟨q358, h⟩ := gd_some h
      refine e_sld dL_law_976 q358 ?_
      refine e_aload_nS 0 dL_law_977 rfl rfl ?_
      refine e_iload_n 3 dL_law_978 rfl rfl ?_
      refine e_iconst (v := (2 : Int32)) dL_law_979 (by decide) ?_
      refine e_iadd dL_law_980 ?_
      obtain ⟨q359, h⟩ := gd_some h
      refine e_sld dL_law_981 q359 ?_
      refine e_aload_nS 0 dL_law_982 rfl rfl ?_
      refine e_iload_n 3 dL_law_983 rfl rfl ?_
      refine e_iconst (v := (3 : Int32)) dL_law_984 (by decide) ?_
      refine e_iadd dL_law_985 ?_
      obtain ⟨q360, h⟩ := gd_some h
      refine e_sld dL_law_986 q360 ?_
      obtain ⟨r363, σ362, q361, h⟩ := bd_some h
      refine s_callVi [.int ((mg_xs g) (v + (1 : Int32)).toNatClampNeg), .int ((mg_xs g) (v + (2 : Int32)).toNatClampNeg), .int ((mg_xs g) (v + (3 : Int32)).toNatClampNeg)] dL_law_987 ml_RL_126 h_a2 ⟨_, rfl, by decide⟩ rfl (v_X10_note (d + 44) h_a2 q361) (Nat.le_of_ble_eq_true rfl) ?_
      refine e_icmp_eq 1186 dL_law_990 (by decide) (fun c364 => ?_) (fun c364 => ?_)
      · rw [if_pos c364] at h
        obtain ⟨x365, q366, h⟩ := lt_some h
        refine e_iinc (v := x365) (L' := [(0, .retAddr 0), (1, .ref a1), (2, .ref a2), (3, .int x365)]) 3 dL_law_1186 rfl q366.symm (by decide) rfl ?_
        refine e_goto 18 dL_law_1189 (by decide) ?_
        refine s_pick (L' := [(0, .retAddr 0), (1, .ref a1), (2, .ref a2), (3, .int x365)]) [0, 1, 2, 3] rfl ?_
        exact H18 x365 σ362 h
      · rw [if_neg c364] at h
        refine e_iconst (v := (0 : Int32)) dL_law_993 (by decide) ?_
        obtain rfl := Option.some.inj h
        exact s_ret rfl ⟨_, rfl, nb1 (Or.inl rfl)⟩ dL_law_994
    rw [if_neg c351] at h
    by_cases c367 : x3 = 27
    · rw [if_pos c367] at h
      refine s_eqi c367 ?_
      refine e_tabIn 995 dL_law_33 (by decide) (by decide) rfl (by decide) ?_
      refine e_aload_n 1 dL_law_995 rfl rfl ?_
      refine e_aload_nS 0 dL_law_996 rfl rfl ?_
      refine e_iload_n 3 dL_law_997 rfl rfl ?_
      refine e_iconst (v := (1 : Int32)) dL_law_998 (by decide) ?_
      refine e_iadd dL_law_999 ?_
      obtain ⟨q368, h⟩ := gd_some h
      refine e_sld dL_law_1000 q368 ?_
      obtain ⟨r371, σ370, q369, h⟩ := bd_some h
      refine s_callVi [.int ((mg_xs g) (v + (1 : Int32)).toNatClampNeg)] dL_law_1001 ml_RL_127 h_a1 ⟨_, rfl, by decide⟩ rfl (v_X9_ruled (d + 39) h_a1 q369) (Nat.le_of_ble_eq_true rfl) ?_
      refine e_aload_n 2 dL_law_1004 rfl rfl ?_
      refine e_aload_nS 0 dL_law_1005 rfl rfl ?_
      refine e_iload_n 3 dL_law_1006 rfl rfl ?_
      refine e_iconst (v := (1 : Int32)) dL_law_1007 (by decide) ?_
      refine e_iadd dL_law_1008 ?_
      obtain ⟨q372, h⟩ := gd_some h
      refine e_sld dL_law_1009 q372 ?_
      obtain ⟨r375, σ374, q373, h⟩ := bd_some h
      refine s_callVi [.int ((mg_xs g) (v + (1 : Int32)).toNatClampNeg)] dL_law_1010 ml_RL_130 h_a2 ⟨_, rfl, by decide⟩ rfl (v_X10_ruled (d + 37) h_a2 q373) (Nat.le_of_ble_eq_true rfl) ?_
      refine e_icmp_eq 1186 dL_law_1013 (by decide) (fun c376 => ?_) (fun c376 => ?_)
      · rw [if_pos c376] at h
        obtain ⟨x377, q378, h⟩ := lt_some h
        refine e_iinc (v := x377) (L' := [(0, .retAddr 0), (1, .ref a1), (2, .ref a2), (3, .int x377)]) 3 dL_law_1186 rfl q378.symm (by decide) rfl ?_
        refine e_goto 18 dL_law_1189 (by decide) ?_
        refine s_pick (L' := [(0, .retAddr 0), (1, .ref a1), (2, .ref a2), (3, .int x377)]) [0, 1, 2, 3] rfl ?_
        exact H18 x377 σ374 h
      · rw [if_neg c376] at h
        refine e_iconst (v := (0 : Int32)) dL_law_1016 (by decide) ?_
        obtain rfl := Option.some.inj h
        exact s_ret rfl ⟨_, rfl, nb1 (Or.inl rfl)⟩ dL_law_1017
    rw [if_neg c367] at h
    by_cases c379 : x3 = 28
    · rw [if_pos c379] at h
      refine s_eqi c379 ?_
      refine e_tabIn 1018 dL_law_33 (by decide) (by decide) rfl (by decide) ?_
      refine e_aload_n 1 dL_law_1018 rfl rfl ?_
      refine e_aload_nS 0 dL_law_1019 rfl rfl ?_
      refine e_iload_n 3 dL_law_1020 rfl rfl ?_
      refine e_iconst (v := (1 : Int32)) dL_law_1021 (by decide) ?_
      refine e_iadd dL_law_1022 ?_
      obtain ⟨q380, h⟩ := gd_some h
      refine e_sld dL_law_1023 q380 ?_
      obtain ⟨r383, σ382, q381, h⟩ := bd_some h
      refine s_callVi [.int ((mg_xs g) (v + (1 : Int32)).toNatClampNeg)] dL_law_1024 ml_RL_131 h_a1 ⟨_, rfl, by decide⟩ rfl (v_X9_look (d + 39) h_a1 q381) (Nat.le_of_ble_eq_true rfl) ?_
      refine e_aload_n 2 dL_law_1027 rfl rfl ?_
      refine e_aload_nS 0 dL_law_1028 rfl rfl ?_
      refine e_iload_n 3 dL_law_1029 rfl rfl ?_
      refine e_iconst (v := (1 : Int32)) dL_law_1030 (by decide) ?_
      refine e_iadd dL_law_1031 ?_
      obtain ⟨q384, h⟩ := gd_some h
      refine e_sld dL_law_1032 q384 ?_
      obtain ⟨r387, σ386, q385, h⟩ := bd_some h
      refine s_callVi [.int ((mg_xs g) (v + (1 : Int32)).toNatClampNeg)] dL_law_1033 ml_RL_134 h_a2 ⟨_, rfl, by decide⟩ rfl (v_X10_look (d + 37) h_a2 q385) (Nat.le_of_ble_eq_true rfl) ?_
      refine e_icmp_eq 1186 dL_law_1036 (by decide) (fun c388 => ?_) (fun c388 => ?_)
      · rw [if_pos c388] at h
        obtain ⟨x389, q390, h⟩ := lt_some h
        refine e_iinc (v := x389) (L' := [(0, .retAddr 0), (1, .ref a1), (2, .ref a2), (3, .int x389)]) 3 dL_law_1186 rfl q390.symm (by decide) rfl ?_
        refine e_goto 18 dL_law_1189 (by decide) ?_
        refine s_pick (L' := [(0, .retAddr 0), (1, .ref a1), (2, .ref a2), (3, .int x389)]) [0, 1, 2, 3] rfl ?_
        exact H18 x389 σ386 h
      · rw [if_neg c388] at h
        refine e_iconst (v := (0 : Int32)) dL_law_1039 (by decide) ?_
        obtain rfl := Option.some.inj h
        exact s_ret rfl ⟨_, rfl, nb1 (Or.inl rfl)⟩ dL_law_1040
    rw [if_neg c379] at h
    by_cases c391 : x3 = 29
    · rw [if_pos c391] at h
      refine s_eqi c391 ?_
      refine e_tabIn 1041 dL_law_33 (by decide) (by decide) rfl (by decide) ?_
      refine e_aload_n 1 dL_law_1041 rfl rfl ?_
      refine e_aload_nS 0 dL_law_1042 rfl rfl ?_
      refine e_iload_n 3 dL_law_1043 rfl rfl ?_
      refine e_iconst (v := (1 : Int32)) dL_law_1044 (by decide) ?_
      refine e_iadd dL_law_1045 ?_
      obtain ⟨q392, h⟩ := gd_some h
      refine e_sld dL_law_1046 q392 ?_
      obtain ⟨r395, σ394, q393, h⟩ := bd_some h
      refine s_callVi [.int ((mg_xs g) (v + (1 : Int32)).toNatClampNeg)] dL_law_1047 ml_RL_135 h_a1 ⟨_, rfl, by decide⟩ rfl (v_X9_seed (d + 45) h_a1 q393) (Nat.le_of_ble_eq_true rfl) ?_
      refine e_aload_n 2 dL_law_1050 rfl rfl ?_
      refine e_aload_nS 0 dL_law_1051 rfl rfl ?_
      refine e_iload_n 3 dL_law_1052 rfl rfl ?_
      refine e_iconst (v := (1 : Int32)) dL_law_1053 (by decide) ?_
      refine e_iadd dL_law_1054 ?_
      obtain ⟨q396, h⟩ := gd_some h
      refine e_sld dL_law_1055 q396 ?_
      obtain ⟨r399, σ398, q397, h⟩ := bd_some h
      refine s_callVi [.int ((mg_xs g) (v + (1 : Int32)).toNatClampNeg)] dL_law_1056 ml_RL_138 h_a2 ⟨_, rfl, by decide⟩ rfl (v_X10_seed (d + 45) h_a2 q397) (Nat.le_of_ble_eq_true rfl) ?_
      refine e_icmp_eq 1186 dL_law_1059 (by decide) (fun c400 => ?_) (fun c400 => ?_)
      · rw [if_pos c400] at h
        obtain ⟨x401, q402, h⟩ := lt_some h
        refine e_iinc (v := x401) (L' := [(0, .retAddr 0), (1, .ref a1), (2, .ref a2), (3, .int x401)]) 3 dL_law_1186 rfl q402.symm (by decide) rfl ?_
        refine e_goto 18 dL_law_1189 (by decide) ?_
        refine s_pick (L' := [(0, .retAddr 0), (1, .ref a1), (2, .ref a2), (3, .int x401)]) [0, 1, 2, 3] rfl ?_
        exact H18 x401 σ398 h
      · rw [if_neg c400] at h
        refine e_iconst (v := (0 : Int32)) dL_law_1062 (by decide) ?_
        obtain rfl := Option.some.inj h
        exact s_ret rfl ⟨_, rfl, nb1 (Or.inl rfl)⟩ dL_law_1063
    rw [if_neg c391] at h
    by_cases c403 : x3 = 30
    · rw [if_pos c403] at h
      refine s_eqi c403 ?_
      refine e_tabIn 1064 dL_law_33 (by decide) (by decide) rfl (by decide) ?_
      refine e_aload_n 1 dL_law_1064 rfl rfl ?_
      refine e_aload_nS 0 dL_law_1065 rfl rfl ?_
      refine e_iload_n 3 dL_law_1066 rfl rfl ?_
      refine e_iconst (v := (1 : Int32)) dL_law_1067 (by decide) ?_
      refine e_iadd dL_law_1068 ?_
      obtain ⟨q404, h⟩ := gd_some h
      refine e_sld dL_law_1069 q404 ?_
      refine e_aload_nS 0 dL_law_1070 rfl rfl ?_
      refine e_iload_n 3 dL_law_1071 rfl rfl ?_
      refine e_iconst (v := (2 : Int32)) dL_law_1072 (by decide) ?_
      refine e_iadd dL_law_1073 ?_
      obtain ⟨q405, h⟩ := gd_some h
      refine e_sld dL_law_1074 q405 ?_
      refine e_aload_nS 0 dL_law_1075 rfl rfl ?_
      refine e_iload_n 3 dL_law_1076 rfl rfl ?_
      refine e_iconst (v := (3 : Int32)) dL_law_1077 (by decide) ?_
      refine e_iadd dL_law_1078 ?_
      obtain ⟨q406, h⟩ := gd_some h
      refine e_sld dL_law_1079 q406 ?_
      refine e_aload_nS 0 dL_law_1080 rfl rfl ?_
      refine e_iload_n 3 dL_law_1081 rfl rfl ?_
      refine e_iconst (v := (4 : Int32)) dL_law_1082 (by decide) ?_
      refine e_iadd dL_law_1083 ?_
      obtain ⟨q407, h⟩ := gd_some h
      refine e_sld dL_law_1084 q407 ?_
      obtain ⟨r410, σ409, q408, h⟩ := bd_some h
      refine s_callVi [.int ((mg_xs g) (v + (1 : Int32)).toNatClampNeg), .int ((mg_xs g) (v + (2 : Int32)).toNatClampNeg), .int ((mg_xs g) (v + (3 : Int32)).toNatClampNeg), .int ((mg_xs g) (v + (4 : Int32)).toNatClampNeg)] dL_law_1085 ml_RL_139 h_a1 ⟨_, rfl, by decide⟩ rfl (v_X9_strangers (d + 40) h_a1 q408) (Nat.le_of_ble_eq_true rfl) ?_
      refine e_aload_n 2 dL_law_1088 rfl rfl ?_
      refine e_aload_nS 0 dL_law_1089 rfl rfl ?_
      refine e_iload_n 3 dL_law_1090 rfl rfl ?_
      refine e_iconst (v := (1 : Int32)) dL_law_1091 (by decide) ?_
      refine e_iadd dL_law_1092 ?_
      obtain ⟨q411, h⟩ := gd_some h
      refine e_sld dL_law_1093 q411 ?_
      refine e_aload_nS 0 dL_law_1094 rfl rfl ?_
      refine e_iload_n 3 dL_law_1095 rfl rfl ?_
      refine e_iconst (v := (2 : Int32)) dL_law_1096 (by decide) ?_
      refine e_iadd dL_law_1097 ?_
      obtain ⟨q412, h⟩ := gd_some h
      refine e_sld dL_law_1098 q412 ?_
      refine e_aload_nS 0 dL_law_1099 rfl rfl ?_
      refine e_iload_n 3 dL_law_1100 rfl rfl ?_
      refine e_iconst (v := (3 : Int32)) dL_law_1101 (by decide) ?_
      refine e_iadd dL_law_1102 ?_
      obtain ⟨q413, h⟩ := gd_some h
      refine e_sld dL_law_1103 q413 ?_
      refine e_aload_nS 0 dL_law_1104 rfl rfl ?_
      refine e_iload_n 3 dL_law_1105 rfl rfl ?_
      refine e_iconst (v := (4 : Int32)) dL_law_1106 (by decide) ?_
      refine e_iadd dL_law_1107 ?_
      obtain ⟨q414, h⟩ := gd_some h
      refine e_sld dL_law_1108 q414 ?_
      obtain ⟨r417, σ416, q415, h⟩ := bd_some h
      refine s_callVi [.int ((mg_xs g) (v + (1 : Int32)).toNatClampNeg), .int ((mg_xs g) (v + (2 : Int32)).toNatClampNeg), .int ((mg_xs g) (v + (3 : Int32)).toNatClampNeg), .int ((mg_xs g) (v + (4 : Int32)).toNatClampNeg)] dL_law_1109 ml_RL_142 h_a2 ⟨_, rfl, by decide⟩ rfl (v_X10_strangers (d + 38) h_a2 q415) (Nat.le_of_ble_eq_true rfl) ?_
      refine e_icmp_eq 1186 dL_law_1112 (by decide) (fun c418 => ?_) (fun c418 => ?_)
      · rw [if_pos c418] at h
        obtain ⟨x419, q420, h⟩ := lt_some h
        refine e_iinc (v := x419) (L' := [(0, .retAddr 0), (1, .ref a1), (2, .ref a2), (3, .int x419)]) 3 dL_law_1186 rfl q420.symm (by decide) rfl ?_
        refine e_goto 18 dL_law_1189 (by decide) ?_
        refine s_pick (L' := [(0, .retAddr 0), (1, .ref a1), (2, .ref a2), (3, .int x419)]) [0, 1, 2, 3] rfl ?_
        exact H18 x419 σ416 h
      · rw [if_neg c418] at h
        refine e_iconst (v := (0 : Int32)) dL_law_1115 (by decide) ?_
        obtain rfl := Option.some.inj h
        exact s_ret rfl ⟨_, rfl, nb1 (Or.inl rfl)⟩ dL_law_1116
    rw [if_neg c403] at h
    by_cases c421 : x3 = 31
    · rw [if_pos c421] at h
      refine s_eqi c421 ?_
      refine e_tabIn 1117 dL_law_33 (by decide) (by decide) rfl (by decide) ?_
      refine e_aload_n 1 dL_law_1117 rfl rfl ?_
      refine e_aload_nS 0 dL_law_1118 rfl rfl ?_
      refine e_iload_n 3 dL_law_1119 rfl rfl ?_
      refine e_iconst (v := (1 : Int32)) dL_law_1120 (by decide) ?_
      refine e_iadd dL_law_1121 ?_
      obtain ⟨q422, h⟩ := gd_some h
      refine e_sld dL_law_1122 q422 ?_
      obtain ⟨r425, σ424, q423, h⟩ := bd_some h
      refine s_callVi [.int ((mg_xs g) (v + (1 : Int32)).toNatClampNeg)] dL_law_1123 ml_RL_143 h_a1 ⟨_, rfl, by decide⟩ rfl (v_X9_count (d + 44) h_a1 q423) (Nat.le_of_ble_eq_true rfl) ?_
      refine e_aload_n 2 dL_law_1126 rfl rfl ?_
      refine e_aload_nS 0 dL_law_1127 rfl rfl ?_
      refine e_iload_n 3 dL_law_1128 rfl rfl ?_
      refine e_iconst (v := (1 : Int32)) dL_law_1129 (by decide) ?_
      refine e_iadd dL_law_1130 ?_
      obtain ⟨q426, h⟩ := gd_some h
      refine e_sld dL_law_1131 q426 ?_
      obtain ⟨r429, σ428, q427, h⟩ := bd_some h
      refine s_callVi [.int ((mg_xs g) (v + (1 : Int32)).toNatClampNeg)] dL_law_1132 ml_RL_146 h_a2 ⟨_, rfl, by decide⟩ rfl (v_X10_count (d + 43) h_a2 q427) (Nat.le_of_ble_eq_true rfl) ?_
      refine e_icmp_eq 1186 dL_law_1135 (by decide) (fun c430 => ?_) (fun c430 => ?_)
      · rw [if_pos c430] at h
        obtain ⟨x431, q432, h⟩ := lt_some h
        refine e_iinc (v := x431) (L' := [(0, .retAddr 0), (1, .ref a1), (2, .ref a2), (3, .int x431)]) 3 dL_law_1186 rfl q432.symm (by decide) rfl ?_
        refine e_goto 18 dL_law_1189 (by decide) ?_
        refine s_pick (L' := [(0, .retAddr 0), (1, .ref a1), (2, .ref a2), (3, .int x431)]) [0, 1, 2, 3] rfl ?_
        exact H18 x431 σ428 h
      · rw [if_neg c430] at h
        refine e_iconst (v := (0 : Int32)) dL_law_1138 (by decide) ?_
        obtain rfl := Option.some.inj h
        exact s_ret rfl ⟨_, rfl, nb1 (Or.inl rfl)⟩ dL_law_1139
    rw [if_neg c421] at h
    by_cases c433 : x3 = 32
    · rw [if_pos c433] at h
      refine s_eqi c433 ?_
      refine e_tabIn 1140 dL_law_33 (by decide) (by decide) rfl (by decide) ?_
      refine e_aload_n 1 dL_law_1140 rfl rfl ?_
      refine e_aload_nS 0 dL_law_1141 rfl rfl ?_
      refine e_iload_n 3 dL_law_1142 rfl rfl ?_
      refine e_iconst (v := (1 : Int32)) dL_law_1143 (by decide) ?_
      refine e_iadd dL_law_1144 ?_
      obtain ⟨q434, h⟩ := gd_some h
      refine e_sld dL_law_1145 q434 ?_
      obtain ⟨r437, σ436, q435, h⟩ := bd_some h
      refine s_callVi [.int ((mg_xs g) (v + (1 : Int32)).toNatClampNeg)] dL_law_1146 ml_RL_147 h_a1 ⟨_, rfl, by decide⟩ rfl (v_X9_image (d + 42) h_a1 q435) (Nat.le_of_ble_eq_true rfl) ?_
      refine e_aload_n 2 dL_law_1149 rfl rfl ?_
      refine e_aload_nS 0 dL_law_1150 rfl rfl ?_
      refine e_iload_n 3 dL_law_1151 rfl rfl ?_
      refine e_iconst (v := (1 : Int32)) dL_law_1152 (by decide) ?_
      refine e_iadd dL_law_1153 ?_
      obtain ⟨q438, h⟩ := gd_some h
      refine e_sld dL_law_1154 q438 ?_
      obtain ⟨r441, σ440, q439, h⟩ := bd_some h
      refine s_callVi [.int ((mg_xs g) (v + (1 : Int32)).toNatClampNeg)] dL_law_1155 ml_RL_150 h_a2 ⟨_, rfl, by decide⟩ rfl (v_X10_image (d + 44) h_a2 q439) (Nat.le_of_ble_eq_true rfl) ?_
      refine e_icmp_eq 1186 dL_law_1158 (by decide) (fun c442 => ?_) (fun c442 => ?_)
      · rw [if_pos c442] at h
        obtain ⟨x443, q444, h⟩ := lt_some h
        refine e_iinc (v := x443) (L' := [(0, .retAddr 0), (1, .ref a1), (2, .ref a2), (3, .int x443)]) 3 dL_law_1186 rfl q444.symm (by decide) rfl ?_
        refine e_goto 18 dL_law_1189 (by decide) ?_
        refine s_pick (L' := [(0, .retAddr 0), (1, .ref a1), (2, .ref a2), (3, .int x443)]) [0, 1, 2, 3] rfl ?_
        exact H18 x443 σ440 h
      · rw [if_neg c442] at h
        refine e_iconst (v := (0 : Int32)) dL_law_1161 (by decide) ?_
        obtain rfl := Option.some.inj h
        exact s_ret rfl ⟨_, rfl, nb1 (Or.inl rfl)⟩ dL_law_1162
    rw [if_neg c433] at h
    by_cases c445 : x3 = 33
    · rw [if_pos c445] at h
      refine s_eqi c445 ?_
      refine e_tabIn 1163 dL_law_33 (by decide) (by decide) rfl (by decide) ?_
      refine e_aload_n 1 dL_law_1163 rfl rfl ?_
      refine e_aload_nS 0 dL_law_1164 rfl rfl ?_
      refine e_iload_n 3 dL_law_1165 rfl rfl ?_
      refine e_iconst (v := (1 : Int32)) dL_law_1166 (by decide) ?_
      refine e_iadd dL_law_1167 ?_
      obtain ⟨q446, h⟩ := gd_some h
      refine e_sld dL_law_1168 q446 ?_
      obtain ⟨r449, σ448, q447, h⟩ := bd_some h
      refine s_callVi [.int ((mg_xs g) (v + (1 : Int32)).toNatClampNeg)] dL_law_1169 ml_RL_151 h_a1 ⟨_, rfl, by decide⟩ rfl (v_X9_back (d + 42) h_a1 q447) (Nat.le_of_ble_eq_true rfl) ?_
      refine e_aload_n 2 dL_law_1172 rfl rfl ?_
      refine e_aload_nS 0 dL_law_1173 rfl rfl ?_
      refine e_iload_n 3 dL_law_1174 rfl rfl ?_
      refine e_iconst (v := (1 : Int32)) dL_law_1175 (by decide) ?_
      refine e_iadd dL_law_1176 ?_
      obtain ⟨q450, h⟩ := gd_some h
      refine e_sld dL_law_1177 q450 ?_
      obtain ⟨r453, σ452, q451, h⟩ := bd_some h
      refine s_callVi [.int ((mg_xs g) (v + (1 : Int32)).toNatClampNeg)] dL_law_1178 ml_RL_154 h_a2 ⟨_, rfl, by decide⟩ rfl (v_X10_back (d + 44) h_a2 q451) (Nat.le_of_ble_eq_true rfl) ?_
      refine e_icmp_eq 1186 dL_law_1181 (by decide) (fun c454 => ?_) (fun c454 => ?_)
      · rw [if_pos c454] at h
        obtain ⟨x455, q456, h⟩ := lt_some h
        refine e_iinc (v := x455) (L' := [(0, .retAddr 0), (1, .ref a1), (2, .ref a2), (3, .int x455)]) 3 dL_law_1186 rfl q456.symm (by decide) rfl ?_
        refine e_goto 18 dL_law_1189 (by decide) ?_
        refine s_pick (L' := [(0, .retAddr 0), (1, .ref a1), (2, .ref a2), (3, .int x455)]) [0, 1, 2, 3] rfl ?_
        exact H18 x455 σ452 h
      · rw [if_neg c454] at h
        refine e_iconst (v := (0 : Int32)) dL_law_1184 (by decide) ?_
        obtain rfl := Option.some.inj h
        exact s_ret rfl ⟨_, rfl, nb1 (Or.inl rfl)⟩ dL_law_1185
    rw [if_neg c445] at h
    have c5' := lv_neT (a := 0) c5 rfl
    have c25' := lv_neT (a := 1) c25 rfl
    have c37' := lv_neT (a := 2) c37 rfl
    have c47' := lv_neT (a := 3) c47 rfl
    have c57' := lv_neT (a := 4) c57 rfl
    have c69' := lv_neT (a := 5) c69 rfl
    have c83' := lv_neT (a := 6) c83 rfl
    have c97' := lv_neT (a := 7) c97 rfl
    have c107' := lv_neT (a := 8) c107 rfl
    have c121' := lv_neT (a := 9) c121 rfl
    have c133' := lv_neT (a := 10) c133 rfl
    have c149' := lv_neT (a := 11) c149 rfl
    have c163' := lv_neT (a := 12) c163 rfl
    have c173' := lv_neT (a := 13) c173 rfl
    have c189' := lv_neT (a := 14) c189 rfl
    have c201' := lv_neT (a := 15) c201 rfl
    have c215' := lv_neT (a := 16) c215 rfl
    have c225' := lv_neT (a := 17) c225 rfl
    have c237' := lv_neT (a := 18) c237 rfl
    have c255' := lv_neT (a := 19) c255 rfl
    have c267' := lv_neT (a := 20) c267 rfl
    have c281' := lv_neT (a := 21) c281 rfl
    have c295' := lv_neT (a := 22) c295 rfl
    have c307' := lv_neT (a := 23) c307 rfl
    have c321' := lv_neT (a := 24) c321 rfl
    have c339' := lv_neT (a := 25) c339 rfl
    have c351' := lv_neT (a := 26) c351 rfl
    have c367' := lv_neT (a := 27) c367 rfl
    have c379' := lv_neT (a := 28) c379 rfl
    have c391' := lv_neT (a := 29) c391 rfl
    have c403' := lv_neT (a := 30) c403 rfl
    have c421' := lv_neT (a := 31) c421 rfl
    have c433' := lv_neT (a := 32) c433 rfl
    have c445' := lv_neT (a := 33) c445 rfl
    refine e_tabOut 1186 dL_law_33 (by omega) (by decide) ?_
    obtain ⟨x457, q458, h⟩ := lt_some h
    refine e_iinc (v := x457) (L' := [(0, .retAddr 0), (1, .ref a1), (2, .ref a2), (3, .int x457)]) 3 dL_law_1186 rfl q458.symm (by decide) rfl ?_
    refine e_goto 18 dL_law_1189 (by decide) ?_
    refine s_pick (L' := [(0, .retAddr 0), (1, .ref a1), (2, .ref a2), (3, .int x457)]) [0, 1, 2, 3] rfl ?_
    exact H18 x457 σ h
