theorem tw1 {w : Cond} (i : Nat) (h : tables_1_1[i]? = some w) (hg : goodWord w = true) : w ∈ mm_T := List.mem_filter.mpr ⟨List.mem_append_right _ (List.mem_append_left _ (List.mem_of_getElem? h)), hg⟩
theorem tw2 {w : Cond} (i : Nat) (h : tables_1_2[i]? = some w) (hg : goodWord w = true) : w ∈ mm_T := List.mem_filter.mpr ⟨List.mem_append_right _ (List.mem_append_right _ (List.mem_append_left _ (List.mem_of_getElem? h))), hg⟩
theorem tw3 {w : Cond} (i : Nat) (h : tables_1_3[i]? = some w) (hg : goodWord w = true) : w ∈ mm_T := List.mem_filter.mpr ⟨List.mem_append_right _ (List.mem_append_right _ (List.mem_append_right _ (List.mem_append_left _ (List.mem_of_getElem? h)))), hg⟩
theorem tw4 {w : Cond} (i : Nat) (h : tables_1_4[i]? = some w) (hg : goodWord w = true) : w ∈ mm_T := List.mem_filter.mpr ⟨List.mem_append_right _ (List.mem_append_right _ (List.mem_append_right _ (List.mem_append_right _ (List.mem_append_left _ (List.mem_of_getElem? h))))), hg⟩
theorem tw5 {w : Cond} (i : Nat) (h : tables_1_5[i]? = some w) (hg : goodWord w = true) : w ∈ mm_T := List.mem_filter.mpr ⟨List.mem_append_right _ (List.mem_append_right _ (List.mem_append_right _ (List.mem_append_right _ (List.mem_append_right _ (List.mem_append_left _ (List.mem_of_getElem? h)))))), hg⟩
theorem tw6 {w : Cond} (i : Nat) (h : tables_1_6[i]? = some w) (hg : goodWord w = true) : w ∈ mm_T := List.mem_filter.mpr ⟨List.mem_append_right _ (List.mem_append_right _ (List.mem_append_right _ (List.mem_append_right _ (List.mem_append_right _ (List.mem_append_right _ (List.mem_append_left _ (List.mem_of_getElem? h))))))), hg⟩
theorem tw7 {w : Cond} (i : Nat) (h : tables_1_7[i]? = some w) (hg : goodWord w = true) : w ∈ mm_T := List.mem_filter.mpr ⟨List.mem_append_right _ (List.mem_append_right _ (List.mem_append_right _ (List.mem_append_right _ (List.mem_append_right _ (List.mem_append_right _ (List.mem_append_right _ (List.mem_of_getElem? h))))))), hg⟩
theorem pw1 {q : MethodName × Nat} (i : Nat) (h : lw_privs_1[i]? = some q) (hg : goodWord (Cond.selects q.1.cls q.1 q.1) = true) : Cond.selects q.1.cls q.1 q.1 ∈ mm_T := List.mem_filter.mpr ⟨List.mem_append_left _ (List.mem_map.mpr ⟨q, (List.mem_append_left _ (List.mem_of_getElem? h)), rfl⟩), hg⟩
theorem pw2 {q : MethodName × Nat} (i : Nat) (h : lw_privs_2[i]? = some q) (hg : goodWord (Cond.selects q.1.cls q.1 q.1) = true) : Cond.selects q.1.cls q.1 q.1 ∈ mm_T := List.mem_filter.mpr ⟨List.mem_append_left _ (List.mem_map.mpr ⟨q, (List.mem_append_right _ (List.mem_append_left _ (List.mem_of_getElem? h))), rfl⟩), hg⟩
theorem pw3 {q : MethodName × Nat} (i : Nat) (h : lw_privs_3[i]? = some q) (hg : goodWord (Cond.selects q.1.cls q.1 q.1) = true) : Cond.selects q.1.cls q.1 q.1 ∈ mm_T := List.mem_filter.mpr ⟨List.mem_append_left _ (List.mem_map.mpr ⟨q, (List.mem_append_right _ (List.mem_append_right _ (List.mem_append_left _ (List.mem_of_getElem? h)))), rfl⟩), hg⟩
theorem pw4 {q : MethodName × Nat} (i : Nat) (h : lw_privs_4[i]? = some q) (hg : goodWord (Cond.selects q.1.cls q.1 q.1) = true) : Cond.selects q.1.cls q.1 q.1 ∈ mm_T := List.mem_filter.mpr ⟨List.mem_append_left _ (List.mem_map.mpr ⟨q, (List.mem_append_right _ (List.mem_append_right _ (List.mem_append_right _ (List.mem_append_left _ (List.mem_of_getElem? h))))), rfl⟩), hg⟩
theorem pw5 {q : MethodName × Nat} (i : Nat) (h : lw_privs_5[i]? = some q) (hg : goodWord (Cond.selects q.1.cls q.1 q.1) = true) : Cond.selects q.1.cls q.1 q.1 ∈ mm_T := List.mem_filter.mpr ⟨List.mem_append_left _ (List.mem_map.mpr ⟨q, (List.mem_append_right _ (List.mem_append_right _ (List.mem_append_right _ (List.mem_append_right _ (List.mem_append_left _ (List.mem_of_getElem? h)))))), rfl⟩), hg⟩
theorem pw6 {q : MethodName × Nat} (i : Nat) (h : lw_privs_6[i]? = some q) (hg : goodWord (Cond.selects q.1.cls q.1 q.1) = true) : Cond.selects q.1.cls q.1 q.1 ∈ mm_T := List.mem_filter.mpr ⟨List.mem_append_left _ (List.mem_map.mpr ⟨q, (List.mem_append_right _ (List.mem_append_right _ (List.mem_append_right _ (List.mem_append_right _ (List.mem_append_right _ (List.mem_of_getElem? h)))))), rfl⟩), hg⟩
theorem fl_RX0_11 : mm_fl RX0 11 0 0 2 := ⟨by decide, by decide, by decide, (tw2 12 rfl rfl)⟩
theorem fl_RX0_18 : mm_fl RX0 18 0 2 0 := ⟨by decide, by decide, by decide, (tw2 14 rfl rfl)⟩
theorem fl_RX0_22 : mm_fl RX0 22 0 1 0 := ⟨by decide, by decide, by decide, (tw2 13 rfl rfl)⟩
theorem fl_RX10_105 : mm_fl RX10 105 10 9 0 := ⟨by decide, by decide, by decide, (tw4 161 rfl rfl)⟩
theorem fl_RX10_108 : mm_fl RX10 108 10 8 0 := ⟨by decide, by decide, by decide, (tw4 160 rfl rfl)⟩
theorem fl_RX10_13 : mm_fl RX10 13 10 3 2 := ⟨by decide, by decide, by decide, (tw4 155 rfl rfl)⟩
theorem fl_RX10_133 : mm_fl RX10 133 10 10 0 := ⟨by decide, by decide, by decide, (tw4 162 rfl rfl)⟩
theorem fl_RX10_166 : mm_fl RX10 166 10 11 0 := ⟨by decide, by decide, by decide, (tw4 163 rfl rfl)⟩
theorem fl_RX10_169 : mm_fl RX10 169 10 12 0 := ⟨by decide, by decide, by decide, (tw4 164 rfl rfl)⟩
theorem fl_RX10_17 : mm_fl RX10 17 10 4 2 := ⟨by decide, by decide, by decide, (tw4 156 rfl rfl)⟩
theorem fl_RX10_172 : mm_fl RX10 172 10 13 0 := ⟨by decide, by decide, by decide, (tw4 165 rfl rfl)⟩
theorem fl_RX10_175 : mm_fl RX10 175 10 16 0 := ⟨by decide, by decide, by decide, (tw4 168 rfl rfl)⟩
theorem fl_RX10_20 : mm_fl RX10 20 10 5 2 := ⟨by decide, by decide, by decide, (tw4 157 rfl rfl)⟩
theorem fl_RX10_23 : mm_fl RX10 23 10 6 2 := ⟨by decide, by decide, by decide, (tw4 158 rfl rfl)⟩
theorem fl_RX10_26 : mm_fl RX10 26 10 7 2 := ⟨by decide, by decide, by decide, (tw4 159 rfl rfl)⟩
theorem fl_RX10_263 : mm_fl RX10 263 10 14 0 := ⟨by decide, by decide, by decide, (tw4 166 rfl rfl)⟩
theorem fl_RX10_275 : mm_fl RX10 275 10 2 0 := ⟨by decide, by decide, by decide, (tw4 154 rfl rfl)⟩
theorem fl_RX10_284 : mm_fl RX10 284 10 31 0 := ⟨by decide, by decide, by decide, (tw4 183 rfl rfl)⟩
theorem fl_RX10_287 : mm_fl RX10 287 10 18 0 := ⟨by decide, by decide, by decide, (tw4 170 rfl rfl)⟩
theorem fl_RX10_29 : mm_fl RX10 29 10 15 2 := ⟨by decide, by decide, by decide, (tw4 167 rfl rfl)⟩
theorem fl_RX10_32 : mm_fl RX10 32 10 17 2 := ⟨by decide, by decide, by decide, (tw4 169 rfl rfl)⟩
theorem fl_RX10_341 : mm_fl RX10 341 10 28 0 := ⟨by decide, by decide, by decide, (tw4 180 rfl rfl)⟩
theorem fl_RX10_358 : mm_fl RX10 358 10 25 0 := ⟨by decide, by decide, by decide, (tw4 177 rfl rfl)⟩
theorem fl_RX10_36 : mm_fl RX10 36 10 19 2 := ⟨by decide, by decide, by decide, (tw4 171 rfl rfl)⟩
theorem fl_RX10_39 : mm_fl RX10 39 10 20 2 := ⟨by decide, by decide, by decide, (tw4 172 rfl rfl)⟩
theorem fl_RX10_402 : mm_fl RX10 402 10 35 0 := ⟨by decide, by decide, by decide, (tw4 187 rfl rfl)⟩
theorem fl_RX10_405 : mm_fl RX10 405 10 36 0 := ⟨by decide, by decide, by decide, (tw4 188 rfl rfl)⟩
theorem fl_RX10_42 : mm_fl RX10 42 10 21 0 := ⟨by decide, by decide, by decide, (tw4 173 rfl rfl)⟩
theorem fl_RX10_457 : mm_fl RX10 457 10 22 0 := ⟨by decide, by decide, by decide, (tw4 174 rfl rfl)⟩
theorem fl_RX10_46 : mm_fl RX10 46 10 23 0 := ⟨by decide, by decide, by decide, (tw4 175 rfl rfl)⟩
theorem fl_RX10_460 : mm_fl RX10 460 10 41 1 := ⟨by decide, by decide, by decide, (tw4 193 rfl rfl)⟩
theorem fl_RX10_49 : mm_fl RX10 49 10 24 0 := ⟨by decide, by decide, by decide, (tw4 176 rfl rfl)⟩
theorem fl_RX10_52 : mm_fl RX10 52 10 26 2 := ⟨by decide, by decide, by decide, (tw4 178 rfl rfl)⟩
theorem fl_RX10_55 : mm_fl RX10 55 10 27 2 := ⟨by decide, by decide, by decide, (tw4 179 rfl rfl)⟩
theorem fl_RX10_58 : mm_fl RX10 58 10 29 2 := ⟨by decide, by decide, by decide, (tw4 181 rfl rfl)⟩
theorem fl_RX10_61 : mm_fl RX10 61 10 30 2 := ⟨by decide, by decide, by decide, (tw4 182 rfl rfl)⟩
theorem fl_RX10_64 : mm_fl RX10 64 10 32 2 := ⟨by decide, by decide, by decide, (tw4 184 rfl rfl)⟩
theorem fl_RX10_67 : mm_fl RX10 67 10 33 2 := ⟨by decide, by decide, by decide, (tw4 185 rfl rfl)⟩
theorem fl_RX10_7 : mm_fl RX10 7 10 0 2 := ⟨by decide, by decide, by decide, (tw4 152 rfl rfl)⟩
theorem fl_RX10_70 : mm_fl RX10 70 10 34 2 := ⟨by decide, by decide, by decide, (tw4 186 rfl rfl)⟩
theorem fl_RX10_73 : mm_fl RX10 73 10 37 2 := ⟨by decide, by decide, by decide, (tw4 189 rfl rfl)⟩
theorem fl_RX10_76 : mm_fl RX10 76 10 38 2 := ⟨by decide, by decide, by decide, (tw4 190 rfl rfl)⟩
theorem fl_RX10_79 : mm_fl RX10 79 10 39 2 := ⟨by decide, by decide, by decide, (tw4 191 rfl rfl)⟩
theorem fl_RX10_83 : mm_fl RX10 83 10 40 2 := ⟨by decide, by decide, by decide, (tw4 192 rfl rfl)⟩
theorem fl_RX10_86 : mm_fl RX10 86 10 42 2 := ⟨by decide, by decide, by decide, (tw4 194 rfl rfl)⟩
theorem fl_RX10_89 : mm_fl RX10 89 10 43 2 := ⟨by decide, by decide, by decide, (tw4 195 rfl rfl)⟩
theorem fl_RX10_92 : mm_fl RX10 92 10 44 2 := ⟨by decide, by decide, by decide, (tw4 196 rfl rfl)⟩
theorem fl_RX10_95 : mm_fl RX10 95 10 45 2 := ⟨by decide, by decide, by decide, (tw4 197 rfl rfl)⟩
theorem fl_RX10_98 : mm_fl RX10 98 10 1 0 := ⟨by decide, by decide, by decide, (tw4 153 rfl rfl)⟩
theorem fl_RX1_15 : mm_fl RX1 15 1 6 2 := ⟨by decide, by decide, by decide, (tw1 112 rfl rfl)⟩
theorem fl_RX1_18 : mm_fl RX1 18 1 7 2 := ⟨by decide, by decide, by decide, (tw1 114 rfl rfl)⟩
theorem fl_RX1_21 : mm_fl RX1 21 1 0 0 := ⟨by decide, by decide, by decide, (tw1 93 rfl rfl)⟩
theorem fl_RX1_25 : mm_fl RX1 25 1 1 0 := ⟨by decide, by decide, by decide, (tw1 96 rfl rfl)⟩
theorem fl_RX1_29 : mm_fl RX1 29 1 2 0 := ⟨by decide, by decide, by decide, (tw1 100 rfl rfl)⟩
theorem fl_RX1_32 : mm_fl RX1 32 1 3 0 := ⟨by decide, by decide, by decide, (tw1 104 rfl rfl)⟩
theorem fl_RX1_35 : mm_fl RX1 35 1 4 0 := ⟨by decide, by decide, by decide, (tw1 108 rfl rfl)⟩
theorem fl_RX1_9 : mm_fl RX1 9 1 5 2 := ⟨by decide, by decide, by decide, (tw1 110 rfl rfl)⟩
theorem fl_RX2_15 : mm_fl RX2 15 2 3 2 := ⟨by decide, by decide, by decide, (tw1 179 rfl rfl)⟩
theorem fl_RX2_18 : mm_fl RX2 18 2 4 2 := ⟨by decide, by decide, by decide, (tw1 182 rfl rfl)⟩
theorem fl_RX2_21 : mm_fl RX2 21 2 5 2 := ⟨by decide, by decide, by decide, (tw1 185 rfl rfl)⟩
theorem fl_RX2_30 : mm_fl RX2 30 2 0 0 := ⟨by decide, by decide, by decide, (tw1 170 rfl rfl)⟩
theorem fl_RX2_34 : mm_fl RX2 34 2 1 0 := ⟨by decide, by decide, by decide, (tw1 173 rfl rfl)⟩
theorem fl_RX2_37 : mm_fl RX2 37 1 5 2 := ⟨by decide, by decide, by decide, (tw1 111 rfl rfl)⟩
theorem fl_RX2_46 : mm_fl RX2 46 1 6 2 := ⟨by decide, by decide, by decide, (tw1 113 rfl rfl)⟩
theorem fl_RX2_9 : mm_fl RX2 9 2 2 2 := ⟨by decide, by decide, by decide, (tw1 176 rfl rfl)⟩
theorem fl_RX3_15 : mm_fl RX3 15 3 2 2 := ⟨by decide, by decide, by decide, (tw1 210 rfl rfl)⟩
theorem fl_RX3_18 : mm_fl RX3 18 3 3 2 := ⟨by decide, by decide, by decide, (tw1 211 rfl rfl)⟩
theorem fl_RX3_21 : mm_fl RX3 21 3 0 0 := ⟨by decide, by decide, by decide, (tw1 207 rfl rfl)⟩
theorem fl_RX3_9 : mm_fl RX3 9 3 1 2 := ⟨by decide, by decide, by decide, (tw1 209 rfl rfl)⟩
theorem fl_RX4_130 : mm_fl RX4 130 1 3 0 := ⟨by decide, by decide, by decide, (tw1 107 rfl rfl)⟩
theorem fl_RX4_137 : mm_fl RX4 137 1 1 0 := ⟨by decide, by decide, by decide, (tw1 99 rfl rfl)⟩
theorem fl_RX4_140 : mm_fl RX4 140 1 2 0 := ⟨by decide, by decide, by decide, (tw1 103 rfl rfl)⟩
theorem fl_RX4_15 : mm_fl RX4 15 4 2 2 := ⟨by decide, by decide, by decide, (tw1 53 rfl rfl)⟩
theorem fl_RX4_150 : mm_fl RX4 150 1 4 0 := ⟨by decide, by decide, by decide, (tw1 109 rfl rfl)⟩
theorem fl_RX4_18 : mm_fl RX4 18 4 3 2 := ⟨by decide, by decide, by decide, (tw1 54 rfl rfl)⟩
theorem fl_RX4_21 : mm_fl RX4 21 4 0 2 := ⟨by decide, by decide, by decide, (tw1 51 rfl rfl)⟩
theorem fl_RX4_28 : mm_fl RX4 28 4 9 0 := ⟨by decide, by decide, by decide, (tw1 60 rfl rfl)⟩
theorem fl_RX4_32 : mm_fl RX4 32 4 10 0 := ⟨by decide, by decide, by decide, (tw1 62 rfl rfl)⟩
theorem fl_RX4_35 : mm_fl RX4 35 4 5 0 := ⟨by decide, by decide, by decide, (tw1 56 rfl rfl)⟩
theorem fl_RX4_41 : mm_fl RX4 41 4 4 0 := ⟨by decide, by decide, by decide, (tw1 55 rfl rfl)⟩
theorem fl_RX4_44 : mm_fl RX4 44 4 6 0 := ⟨by decide, by decide, by decide, (tw1 57 rfl rfl)⟩
theorem fl_RX4_47 : mm_fl RX4 47 4 7 0 := ⟨by decide, by decide, by decide, (tw1 58 rfl rfl)⟩
theorem fl_RX4_50 : mm_fl RX4 50 4 8 0 := ⟨by decide, by decide, by decide, (tw1 59 rfl rfl)⟩
theorem fl_RX4_53 : mm_fl RX4 53 6 1 0 := ⟨by decide, by decide, by decide, (tw1 38 rfl rfl)⟩
theorem fl_RX4_83 : mm_fl RX4 83 6 0 2 := ⟨by decide, by decide, by decide, (tw1 35 rfl rfl)⟩
theorem fl_RX4_9 : mm_fl RX4 9 4 1 2 := ⟨by decide, by decide, by decide, (tw1 52 rfl rfl)⟩
theorem fl_RX5_15 : mm_fl RX5 15 5 1 0 := ⟨by decide, by decide, by decide, (tw1 141 rfl rfl)⟩
theorem fl_RX5_9 : mm_fl RX5 9 5 0 2 := ⟨by decide, by decide, by decide, (tw1 139 rfl rfl)⟩
theorem fl_RX6_15 : mm_fl RX6 15 6 1 0 := ⟨by decide, by decide, by decide, (tw1 37 rfl rfl)⟩
theorem fl_RX6_9 : mm_fl RX6 9 6 0 2 := ⟨by decide, by decide, by decide, (tw1 34 rfl rfl)⟩
theorem fl_RX7_111 : mm_fl RX7 111 2 1 0 := ⟨by decide, by decide, by decide, (tw1 174 rfl rfl)⟩
theorem fl_RX7_114 : mm_fl RX7 114 2 4 2 := ⟨by decide, by decide, by decide, (tw1 184 rfl rfl)⟩
theorem fl_RX7_12 : mm_fl RX7 12 7 1 2 := ⟨by decide, by decide, by decide, (tw2 33 rfl rfl)⟩
theorem fl_RX7_130 : mm_fl RX7 130 2 2 2 := ⟨by decide, by decide, by decide, (tw1 178 rfl rfl)⟩
theorem fl_RX7_133 : mm_fl RX7 133 2 3 2 := ⟨by decide, by decide, by decide, (tw1 181 rfl rfl)⟩
theorem fl_RX7_149 : mm_fl RX7 149 5 1 0 := ⟨by decide, by decide, by decide, (tw1 142 rfl rfl)⟩
theorem fl_RX7_154 : mm_fl RX7 154 5 0 2 := ⟨by decide, by decide, by decide, (tw1 140 rfl rfl)⟩
theorem fl_RX7_161 : mm_fl RX7 161 1 1 0 := ⟨by decide, by decide, by decide, (tw1 98 rfl rfl)⟩
theorem fl_RX7_169 : mm_fl RX7 169 2 5 2 := ⟨by decide, by decide, by decide, (tw1 187 rfl rfl)⟩
theorem fl_RX7_18 : mm_fl RX7 18 7 6 2 := ⟨by decide, by decide, by decide, (tw2 41 rfl rfl)⟩
theorem fl_RX7_22 : mm_fl RX7 22 7 8 2 := ⟨by decide, by decide, by decide, (tw2 45 rfl rfl)⟩
theorem fl_RX7_25 : mm_fl RX7 25 7 9 2 := ⟨by decide, by decide, by decide, (tw2 46 rfl rfl)⟩
theorem fl_RX7_28 : mm_fl RX7 28 7 10 2 := ⟨by decide, by decide, by decide, (tw2 47 rfl rfl)⟩
theorem fl_RX7_32 : mm_fl RX7 32 7 11 2 := ⟨by decide, by decide, by decide, (tw2 48 rfl rfl)⟩
theorem fl_RX7_35 : mm_fl RX7 35 7 0 2 := ⟨by decide, by decide, by decide, (tw2 32 rfl rfl)⟩
theorem fl_RX7_39 : mm_fl RX7 39 7 2 2 := ⟨by decide, by decide, by decide, (tw2 35 rfl rfl)⟩
theorem fl_RX7_47 : mm_fl RX7 47 1 2 0 := ⟨by decide, by decide, by decide, (tw1 101 rfl rfl)⟩
theorem fl_RX7_53 : mm_fl RX7 53 7 3 0 := ⟨by decide, by decide, by decide, (tw2 36 rfl rfl)⟩
theorem fl_RX7_54 : mm_fl RX7 54 7 4 0 := ⟨by decide, by decide, by decide, (tw2 38 rfl rfl)⟩
theorem fl_RX7_57 : mm_fl RX7 57 7 5 0 := ⟨by decide, by decide, by decide, (tw2 40 rfl rfl)⟩
theorem fl_RX7_85 : mm_fl RX7 85 2 0 0 := ⟨by decide, by decide, by decide, (tw1 171 rfl rfl)⟩
theorem fl_RX7_92 : mm_fl RX7 92 1 3 0 := ⟨by decide, by decide, by decide, (tw1 106 rfl rfl)⟩
theorem fl_RX7_95 : mm_fl RX7 95 7 7 0 := ⟨by decide, by decide, by decide, (tw2 43 rfl rfl)⟩
theorem fl_RX8_12 : mm_fl RX8 12 8 0 2 := ⟨by decide, by decide, by decide, (tw1 221 rfl rfl)⟩
theorem fl_RX8_21 : mm_fl RX8 21 8 1 2 := ⟨by decide, by decide, by decide, (tw1 223 rfl rfl)⟩
theorem fl_RX8_28 : mm_fl RX8 28 8 2 2 := ⟨by decide, by decide, by decide, (tw1 225 rfl rfl)⟩
theorem fl_RX8_32 : mm_fl RX8 32 8 3 0 := ⟨by decide, by decide, by decide, (tw1 227 rfl rfl)⟩
theorem fl_RX8_46 : mm_fl RX8 46 8 4 0 := ⟨by decide, by decide, by decide, (tw1 229 rfl rfl)⟩
theorem fl_RX9_107 : mm_fl RX9 107 8 1 2 := ⟨by decide, by decide, by decide, (tw1 224 rfl rfl)⟩
theorem fl_RX9_116 : mm_fl RX9 116 8 2 2 := ⟨by decide, by decide, by decide, (tw1 226 rfl rfl)⟩
theorem fl_RX9_12 : mm_fl RX9 12 9 0 2 := ⟨by decide, by decide, by decide, (tw2 75 rfl rfl)⟩
theorem fl_RX9_120 : mm_fl RX9 120 3 0 0 := ⟨by decide, by decide, by decide, (tw1 208 rfl rfl)⟩
theorem fl_RX9_128 : mm_fl RX9 128 1 3 0 := ⟨by decide, by decide, by decide, (tw1 105 rfl rfl)⟩
theorem fl_RX9_135 : mm_fl RX9 135 8 3 0 := ⟨by decide, by decide, by decide, (tw1 228 rfl rfl)⟩
theorem fl_RX9_142 : mm_fl RX9 142 2 2 2 := ⟨by decide, by decide, by decide, (tw1 177 rfl rfl)⟩
theorem fl_RX9_145 : mm_fl RX9 145 2 3 2 := ⟨by decide, by decide, by decide, (tw1 180 rfl rfl)⟩
theorem fl_RX9_151 : mm_fl RX9 151 2 4 2 := ⟨by decide, by decide, by decide, (tw1 183 rfl rfl)⟩
theorem fl_RX9_154 : mm_fl RX9 154 2 5 2 := ⟨by decide, by decide, by decide, (tw1 186 rfl rfl)⟩
theorem fl_RX9_165 : mm_fl RX9 165 1 1 0 := ⟨by decide, by decide, by decide, (tw1 97 rfl rfl)⟩
theorem fl_RX9_168 : mm_fl RX9 168 1 2 0 := ⟨by decide, by decide, by decide, (tw1 102 rfl rfl)⟩
theorem fl_RX9_171 : mm_fl RX9 171 2 0 0 := ⟨by decide, by decide, by decide, (tw1 172 rfl rfl)⟩
theorem fl_RX9_174 : mm_fl RX9 174 2 1 0 := ⟨by decide, by decide, by decide, (tw1 175 rfl rfl)⟩
theorem fl_RX9_184 : mm_fl RX9 184 0 2 0 := ⟨by decide, by decide, by decide, (tw2 15 rfl rfl)⟩
theorem fl_RX9_185 : mm_fl RX9 185 8 4 0 := ⟨by decide, by decide, by decide, (tw1 230 rfl rfl)⟩
theorem fl_RX9_188 : mm_fl RX9 188 1 0 0 := ⟨by decide, by decide, by decide, (tw1 94 rfl rfl)⟩
theorem fl_RX9_202 : mm_fl RX9 202 7 1 2 := ⟨by decide, by decide, by decide, (tw2 34 rfl rfl)⟩
theorem fl_RX9_244 : mm_fl RX9 244 7 3 0 := ⟨by decide, by decide, by decide, (tw2 37 rfl rfl)⟩
theorem fl_RX9_245 : mm_fl RX9 245 7 4 0 := ⟨by decide, by decide, by decide, (tw2 39 rfl rfl)⟩
theorem fl_RX9_261 : mm_fl RX9 261 7 6 2 := ⟨by decide, by decide, by decide, (tw2 42 rfl rfl)⟩
theorem fl_RX9_285 : mm_fl RX9 285 7 7 0 := ⟨by decide, by decide, by decide, (tw2 44 rfl rfl)⟩
theorem fl_RX9_34 : mm_fl RX9 34 9 3 2 := ⟨by decide, by decide, by decide, (tw2 78 rfl rfl)⟩
theorem fl_RX9_43 : mm_fl RX9 43 9 4 0 := ⟨by decide, by decide, by decide, (tw2 79 rfl rfl)⟩
theorem fl_RX9_50 : mm_fl RX9 50 9 5 2 := ⟨by decide, by decide, by decide, (tw2 80 rfl rfl)⟩
theorem fl_RX9_54 : mm_fl RX9 54 9 6 2 := ⟨by decide, by decide, by decide, (tw2 81 rfl rfl)⟩
theorem fl_RX9_58 : mm_fl RX9 58 9 7 2 := ⟨by decide, by decide, by decide, (tw2 82 rfl rfl)⟩
theorem fl_RX9_65 : mm_fl RX9 65 9 8 2 := ⟨by decide, by decide, by decide, (tw2 83 rfl rfl)⟩
theorem fl_RX9_71 : mm_fl RX9 71 8 0 2 := ⟨by decide, by decide, by decide, (tw1 222 rfl rfl)⟩
theorem fl_RX9_77 : mm_fl RX9 77 9 9 2 := ⟨by decide, by decide, by decide, (tw2 84 rfl rfl)⟩
theorem fl_RX9_81 : mm_fl RX9 81 9 10 2 := ⟨by decide, by decide, by decide, (tw2 85 rfl rfl)⟩
theorem fl_RX9_85 : mm_fl RX9 85 9 11 2 := ⟨by decide, by decide, by decide, (tw2 86 rfl rfl)⟩
theorem fl_RX9_88 : mm_fl RX9 88 9 12 2 := ⟨by decide, by decide, by decide, (tw2 87 rfl rfl)⟩
theorem fl_RX9_91 : mm_fl RX9 91 6 1 0 := ⟨by decide, by decide, by decide, (tw1 36 rfl rfl)⟩
theorem co_RJ6_264 : Cond.constant RJ6 264 (65536) ∈ mm_T := (tw4 98 rfl rfl)
theorem co_RJ6_265 : Cond.constant RJ6 265 (1431655765) ∈ mm_T := (tw3 159 rfl rfl)
theorem co_RJ6_266 : Cond.constant RJ6 266 (858993459) ∈ mm_T := (tw3 160 rfl rfl)
theorem co_RJ6_267 : Cond.constant RJ6 267 (252645135) ∈ mm_T := (tw3 161 rfl rfl)
theorem co_RX10_140 : Cond.constantLong RX10 140 (418520242) ∈ mm_T := (tw5 92 rfl rfl)
theorem co_RX10_142 : Cond.constantLong RX10 142 (16392370) ∈ mm_T := (tw5 168 rfl rfl)
theorem co_RX10_144 : Cond.constantLong RX10 144 (21285028) ∈ mm_T := (tw5 169 rfl rfl)
theorem co_RX10_146 : Cond.constantLong RX10 146 (550036685768868) ∈ mm_T := (tw5 170 rfl rfl)
theorem co_RX10_148 : Cond.constantLong RX10 148 (16955493) ∈ mm_T := (tw5 171 rfl rfl)
theorem co_RX10_150 : Cond.constantLong RX10 150 (550036681439333) ∈ mm_T := (tw5 172 rfl rfl)
theorem co_RX10_152 : Cond.constantLong RX10 152 (136242) ∈ mm_T := (tw5 93 rfl rfl)
theorem co_RX10_154 : Cond.constantLong RX10 154 (66667) ∈ mm_T := (tw5 173 rfl rfl)
theorem co_RX10_156 : Cond.constantLong RX10 156 (20574475859) ∈ mm_T := (tw5 174 rfl rfl)
theorem co_RX10_158 : Cond.constantLong RX10 158 (317301893) ∈ mm_T := (tw5 175 rfl rfl)
theorem co_RX10_160 : Cond.constantLong RX10 160 (21997134003) ∈ mm_T := (tw5 176 rfl rfl)
theorem co_RX10_162 : Cond.constantLong RX10 162 (3554411) ∈ mm_T := (tw5 177 rfl rfl)
theorem co_RX10_164 : Cond.constantLong RX10 164 (278194) ∈ mm_T := (tw5 178 rfl rfl)
theorem co_RX10_186 : Cond.constant RX10 186 (99999) ∈ mm_T := (tw5 155 rfl rfl)
theorem co_RX10_206 : Cond.constantLong RX10 206 (14836) ∈ mm_T := (tw5 192 rfl rfl)
theorem co_RX10_226 : Cond.constantLong RX10 226 (1476) ∈ mm_T := (tw5 216 rfl rfl)
theorem co_RX10_228 : Cond.constantLong RX10 228 (498) ∈ mm_T := (tw5 217 rfl rfl)
theorem co_RX10_230 : Cond.constantLong RX10 230 (294) ∈ mm_T := (tw5 179 rfl rfl)
theorem co_RX10_242 : Cond.constantLong RX10 242 (8902245) ∈ mm_T := (tw5 83 rfl rfl)
theorem co_RX10_256 : Cond.constantLong RX10 256 (3659220) ∈ mm_T := (tw5 94 rfl rfl)
theorem co_RX10_261 : Cond.constantLong RX10 261 (627883) ∈ mm_T := (tw5 95 rfl rfl)
theorem co_RX10_323 : Cond.constantLong RX10 323 (4) ∈ mm_T := (tw6 2 rfl rfl)
theorem co_RX10_385 : Cond.constantLong RX10 385 (99) ∈ mm_T := (tw6 120 rfl rfl)
theorem co_RX10_387 : Cond.constantLong RX10 387 (20) ∈ mm_T := (tw6 125 rfl rfl)
theorem co_RX10_389 : Cond.constantLong RX10 389 (100) ∈ mm_T := (tw6 130 rfl rfl)
theorem co_RX10_391 : Cond.constantLong RX10 391 (2) ∈ mm_T := (tw6 131 rfl rfl)
theorem co_RX10_411 : Cond.constantLong RX10 411 (-1) ∈ mm_T := (tw6 164 rfl rfl)
theorem co_RX10_413 : Cond.constantLong RX10 413 (5) ∈ mm_T := (tw6 165 rfl rfl)
theorem co_RX10_418 : Cond.constantLong RX10 418 (30) ∈ mm_T := (tw6 178 rfl rfl)
theorem co_RX10_420 : Cond.constantLong RX10 420 (60) ∈ mm_T := (tw6 183 rfl rfl)
theorem co_RX10_434 : Cond.constantLong RX10 434 (9999) ∈ mm_T := (tw6 216 rfl rfl)
theorem co_RX10_464 : Cond.constantLong RX10 464 (1103515245) ∈ mm_T := (tw7 33 rfl rfl)
theorem co_RX10_466 : Cond.constantLong RX10 466 (12345) ∈ mm_T := (tw7 34 rfl rfl)
theorem co_RX10_468 : Cond.constantLong RX10 468 (2147483648) ∈ mm_T := (tw7 35 rfl rfl)
theorem co_RX10_470 : Cond.constantLong RX10 470 (65536) ∈ mm_T := (tw7 36 rfl rfl)
theorem co_RX10_472 : Cond.constantLong RX10 472 (10) ∈ mm_T := (tw7 28 rfl rfl)
theorem co_RX10_480 : Cond.constantLong RX10 480 (3) ∈ mm_T := (tw7 49 rfl rfl)
theorem co_RX7_100 : Cond.constantLong RX7 100 (12345) ∈ mm_T := (tw4 124 rfl rfl)
theorem co_RX7_102 : Cond.constantLong RX7 102 (2147483647) ∈ mm_T := (tw4 125 rfl rfl)
theorem co_RX7_104 : Cond.constant RX7 104 (65536) ∈ mm_T := (tw4 126 rfl rfl)
theorem co_RX7_98 : Cond.constantLong RX7 98 (1103515245) ∈ mm_T := (tw4 123 rfl rfl)
theorem mc_J6_bitCount_0f7a4 : Cond.initialized yJ6_bitCount_0f7a4.cls ∈ mm_T ∧ Cond.code yJ6_bitCount_0f7a4 cJ6_bitCount_0f7a4 1 (some .int) ∈ mm_T ∧ (yJ6_bitCount_0f7a4.cls ≠ "java/lang/invoke/MethodHandle" ∧ yJ6_bitCount_0f7a4.cls ≠ "java/lang/invoke/VarHandle" ∧ (parseMethodDescriptor yJ6_bitCount_0f7a4.desc).map (fun d => d.parameters.length) = some 1) ∧ 1 ≤ 80 := ⟨(tw1 19 rfl rfl), (tw3 158 rfl rfl), ⟨by decide +kernel, by decide +kernel, by decide +kernel⟩, by decide⟩
theorem ms_J6_bitCount_0f7a4 : Cond.static yJ6_bitCount_0f7a4 ∈ mm_T := (tw3 157 rfl rfl)
theorem mc_J6_numberOfTrailingZeros_0f7a4 : Cond.initialized yJ6_numberOfTrailingZeros_0f7a4.cls ∈ mm_T ∧ Cond.code yJ6_numberOfTrailingZeros_0f7a4 cJ6_numberOfTrailingZeros_0f7a4 2 (some .int) ∈ mm_T ∧ (yJ6_numberOfTrailingZeros_0f7a4.cls ≠ "java/lang/invoke/MethodHandle" ∧ yJ6_numberOfTrailingZeros_0f7a4.cls ≠ "java/lang/invoke/VarHandle" ∧ (parseMethodDescriptor yJ6_numberOfTrailingZeros_0f7a4.desc).map (fun d => d.parameters.length) = some 1) ∧ 2 ≤ 80 := ⟨(tw1 19 rfl rfl), (tw4 97 rfl rfl), ⟨by decide +kernel, by decide +kernel, by decide +kernel⟩, by decide⟩
theorem ms_J6_numberOfTrailingZeros_0f7a4 : Cond.static yJ6_numberOfTrailingZeros_0f7a4 ∈ mm_T := (tw4 96 rfl rfl)
theorem mc_J7_fill_53178 : Cond.initialized yJ7_fill_53178.cls ∈ mm_T ∧ Cond.code yJ7_fill_53178 cJ7_fill_53178 4 none ∈ mm_T ∧ (yJ7_fill_53178.cls ≠ "java/lang/invoke/MethodHandle" ∧ yJ7_fill_53178.cls ≠ "java/lang/invoke/VarHandle" ∧ (parseMethodDescriptor yJ7_fill_53178.desc).map (fun d => d.parameters.length) = some 2) ∧ 4 ≤ 80 := ⟨(tw1 8 rfl rfl), (tw1 169 rfl rfl), ⟨by decide +kernel, by decide +kernel, by decide +kernel⟩, by decide⟩
theorem ms_J7_fill_53178 : Cond.static yJ7_fill_53178 ∈ mm_T := (tw1 168 rfl rfl)
theorem mc_X0_forget : Cond.initialized yX0_forget.cls ∈ mm_T ∧ Cond.code yX0_forget cX0_forget 1 none ∈ mm_T ∧ (yX0_forget.cls ≠ "java/lang/invoke/MethodHandle" ∧ yX0_forget.cls ≠ "java/lang/invoke/VarHandle" ∧ (parseMethodDescriptor yX0_forget.desc).map (fun d => d.parameters.length) = some 0) ∧ 1 ≤ 80 := ⟨(tw1 10 rfl rfl), (tw3 39 rfl rfl), ⟨by decide +kernel, by decide +kernel, by decide +kernel⟩, by decide⟩
theorem ms_X0_forget : Cond.instanceMethod yX0_forget ∈ mm_T ∧ Cond.selects (mm_C 0).1 yX0_forget yX0_forget ∈ mm_T := ⟨(tw3 37 rfl rfl), (tw3 38 rfl rfl)⟩
theorem mc_X0_keep : Cond.initialized yX0_keep.cls ∈ mm_T ∧ Cond.code yX0_keep cX0_keep 2 none ∈ mm_T ∧ (yX0_keep.cls ≠ "java/lang/invoke/MethodHandle" ∧ yX0_keep.cls ≠ "java/lang/invoke/VarHandle" ∧ (parseMethodDescriptor yX0_keep.desc).map (fun d => d.parameters.length) = some 1) ∧ 2 ≤ 80 := ⟨(tw1 10 rfl rfl), (tw3 115 rfl rfl), ⟨by decide +kernel, by decide +kernel, by decide +kernel⟩, by decide⟩
theorem ms_X0_keep : Cond.instanceMethod yX0_keep ∈ mm_T ∧ Cond.selects (mm_C 0).1 yX0_keep yX0_keep ∈ mm_T := ⟨(tw3 113 rfl rfl), (tw3 114 rfl rfl)⟩
theorem mc_X0_putBack : Cond.initialized yX0_putBack.cls ∈ mm_T ∧ Cond.code yX0_putBack cX0_putBack 2 none ∈ mm_T ∧ (yX0_putBack.cls ≠ "java/lang/invoke/MethodHandle" ∧ yX0_putBack.cls ≠ "java/lang/invoke/VarHandle" ∧ (parseMethodDescriptor yX0_putBack.desc).map (fun d => d.parameters.length) = some 1) ∧ 2 ≤ 80 := ⟨(tw1 10 rfl rfl), (tw3 220 rfl rfl), ⟨by decide +kernel, by decide +kernel, by decide +kernel⟩, by decide⟩
theorem ms_X0_putBack : Cond.instanceMethod yX0_putBack ∈ mm_T ∧ Cond.selects (mm_C 0).1 yX0_putBack yX0_putBack ∈ mm_T := ⟨(tw3 218 rfl rfl), (tw3 219 rfl rfl)⟩
theorem mc_X10_alikeAt : Cond.initialized yX10_alikeAt.cls ∈ mm_T ∧ Cond.code yX10_alikeAt cX10_alikeAt 6 (some .int) ∈ mm_T ∧ (yX10_alikeAt.cls ≠ "java/lang/invoke/MethodHandle" ∧ yX10_alikeAt.cls ≠ "java/lang/invoke/VarHandle" ∧ (parseMethodDescriptor yX10_alikeAt.desc).map (fun d => d.parameters.length) = some 1) ∧ 6 ≤ 80 := ⟨(tw1 12 rfl rfl), (tw7 19 rfl rfl), ⟨by decide +kernel, by decide +kernel, by decide +kernel⟩, by decide⟩
theorem ms_X10_alikeAt : Cond.instanceMethod yX10_alikeAt ∈ mm_T ∧ Cond.selects (mm_C 10).1 yX10_alikeAt yX10_alikeAt ∈ mm_T := ⟨(tw7 18 rfl rfl), (pw6 3 rfl rfl)⟩
theorem mc_X10_areAlike : Cond.initialized yX10_areAlike.cls ∈ mm_T ∧ Cond.code yX10_areAlike cX10_areAlike 4 (some .boolean) ∈ mm_T ∧ (yX10_areAlike.cls ≠ "java/lang/invoke/MethodHandle" ∧ yX10_areAlike.cls ≠ "java/lang/invoke/VarHandle" ∧ (parseMethodDescriptor yX10_areAlike.desc).map (fun d => d.parameters.length) = some 2) ∧ 4 ≤ 80 := ⟨(tw1 12 rfl rfl), (tw6 211 rfl rfl), ⟨by decide +kernel, by decide +kernel, by decide +kernel⟩, by decide⟩
theorem ms_X10_areAlike : Cond.instanceMethod yX10_areAlike ∈ mm_T ∧ Cond.selects (mm_C 10).1 yX10_areAlike yX10_areAlike ∈ mm_T := ⟨(tw6 210 rfl rfl), (pw5 14 rfl rfl)⟩
theorem mc_X10_areNotesSo : Cond.initialized yX10_areNotesSo.cls ∈ mm_T ∧ Cond.code yX10_areNotesSo cX10_areNotesSo 3 (some .boolean) ∈ mm_T ∧ (yX10_areNotesSo.cls ≠ "java/lang/invoke/MethodHandle" ∧ yX10_areNotesSo.cls ≠ "java/lang/invoke/VarHandle" ∧ (parseMethodDescriptor yX10_areNotesSo.desc).map (fun d => d.parameters.length) = some 1) ∧ 3 ≤ 80 := ⟨(tw1 12 rfl rfl), (tw7 11 rfl rfl), ⟨by decide +kernel, by decide +kernel, by decide +kernel⟩, by decide⟩
theorem ms_X10_areNotesSo : Cond.instanceMethod yX10_areNotesSo ∈ mm_T ∧ Cond.selects (mm_C 10).1 yX10_areNotesSo yX10_areNotesSo ∈ mm_T := ⟨(tw7 10 rfl rfl), (pw6 2 rfl rfl)⟩
theorem mc_X10_areTwo : Cond.initialized yX10_areTwo.cls ∈ mm_T ∧ Cond.code yX10_areTwo cX10_areTwo 3 (some .boolean) ∈ mm_T ∧ (yX10_areTwo.cls ≠ "java/lang/invoke/MethodHandle" ∧ yX10_areTwo.cls ≠ "java/lang/invoke/VarHandle" ∧ (parseMethodDescriptor yX10_areTwo.desc).map (fun d => d.parameters.length) = some 2) ∧ 3 ≤ 80 := ⟨(tw1 12 rfl rfl), (tw6 10 rfl rfl), ⟨by decide +kernel, by decide +kernel, by decide +kernel⟩, by decide⟩
theorem ms_X10_areTwo : Cond.instanceMethod yX10_areTwo ∈ mm_T ∧ Cond.selects (mm_C 10).1 yX10_areTwo yX10_areTwo ∈ mm_T := ⟨(tw6 9 rfl rfl), (pw4 0 rfl rfl)⟩
theorem mc_X10_begins : Cond.initialized yX10_begins.cls ∈ mm_T ∧ Cond.code yX10_begins cX10_begins 3 none ∈ mm_T ∧ (yX10_begins.cls ≠ "java/lang/invoke/MethodHandle" ∧ yX10_begins.cls ≠ "java/lang/invoke/VarHandle" ∧ (parseMethodDescriptor yX10_begins.desc).map (fun d => d.parameters.length) = some 0) ∧ 3 ≤ 80 := ⟨(tw1 12 rfl rfl), (tw5 225 rfl rfl), ⟨by decide +kernel, by decide +kernel, by decide +kernel⟩, by decide⟩
theorem ms_X10_begins : Cond.instanceMethod yX10_begins ∈ mm_T ∧ Cond.selects (mm_C 10).1 yX10_begins yX10_begins ∈ mm_T := ⟨(tw5 224 rfl rfl), (pw3 13 rfl rfl)⟩
theorem mc_X10_bits : Cond.initialized yX10_bits.cls ∈ mm_T ∧ Cond.code yX10_bits cX10_bits 3 (some .int) ∈ mm_T ∧ (yX10_bits.cls ≠ "java/lang/invoke/MethodHandle" ∧ yX10_bits.cls ≠ "java/lang/invoke/VarHandle" ∧ (parseMethodDescriptor yX10_bits.desc).map (fun d => d.parameters.length) = some 1) ∧ 3 ≤ 80 := ⟨(tw1 12 rfl rfl), (tw6 80 rfl rfl), ⟨by decide +kernel, by decide +kernel, by decide +kernel⟩, by decide⟩
theorem ms_X10_bits : Cond.static yX10_bits ∈ mm_T := (tw6 79 rfl rfl)
theorem mc_X10_cellHere : Cond.initialized yX10_cellHere.cls ∈ mm_T ∧ Cond.code yX10_cellHere cX10_cellHere 4 (some .boolean) ∈ mm_T ∧ (yX10_cellHere.cls ≠ "java/lang/invoke/MethodHandle" ∧ yX10_cellHere.cls ≠ "java/lang/invoke/VarHandle" ∧ (parseMethodDescriptor yX10_cellHere.desc).map (fun d => d.parameters.length) = some 3) ∧ 4 ≤ 80 := ⟨(tw1 12 rfl rfl), (tw5 115 rfl rfl), ⟨by decide +kernel, by decide +kernel, by decide +kernel⟩, by decide⟩
theorem ms_X10_cellHere : Cond.instanceMethod yX10_cellHere ∈ mm_T ∧ Cond.selects (mm_C 10).1 yX10_cellHere yX10_cellHere ∈ mm_T := ⟨(tw5 114 rfl rfl), (pw2 8 rfl rfl)⟩
theorem mc_X10_choice : Cond.initialized yX10_choice.cls ∈ mm_T ∧ Cond.code yX10_choice cX10_choice 8 (some .int) ∈ mm_T ∧ (yX10_choice.cls ≠ "java/lang/invoke/MethodHandle" ∧ yX10_choice.cls ≠ "java/lang/invoke/VarHandle" ∧ (parseMethodDescriptor yX10_choice.desc).map (fun d => d.parameters.length) = some 1) ∧ 8 ≤ 80 := ⟨(tw1 12 rfl rfl), (tw6 61 rfl rfl), ⟨by decide +kernel, by decide +kernel, by decide +kernel⟩, by decide⟩
theorem ms_X10_choice : Cond.instanceMethod yX10_choice ∈ mm_T ∧ Cond.selects (mm_C 10).1 yX10_choice yX10_choice ∈ mm_T := ⟨(tw6 60 rfl rfl), (pw4 10 rfl rfl)⟩
theorem mc_X10_clauseHere : Cond.initialized yX10_clauseHere.cls ∈ mm_T ∧ Cond.code yX10_clauseHere cX10_clauseHere 3 (some .boolean) ∈ mm_T ∧ (yX10_clauseHere.cls ≠ "java/lang/invoke/MethodHandle" ∧ yX10_clauseHere.cls ≠ "java/lang/invoke/VarHandle" ∧ (parseMethodDescriptor yX10_clauseHere.desc).map (fun d => d.parameters.length) = some 0) ∧ 3 ≤ 80 := ⟨(tw1 12 rfl rfl), (tw5 74 rfl rfl), ⟨by decide +kernel, by decide +kernel, by decide +kernel⟩, by decide⟩
theorem ms_X10_clauseHere : Cond.instanceMethod yX10_clauseHere ∈ mm_T ∧ Cond.selects (mm_C 10).1 yX10_clauseHere yX10_clauseHere ∈ mm_T := ⟨(tw5 73 rfl rfl), (pw1 15 rfl rfl)⟩
theorem mc_X10_closes : Cond.initialized yX10_closes.cls ∈ mm_T ∧ Cond.code yX10_closes cX10_closes 1 none ∈ mm_T ∧ (yX10_closes.cls ≠ "java/lang/invoke/MethodHandle" ∧ yX10_closes.cls ≠ "java/lang/invoke/VarHandle" ∧ (parseMethodDescriptor yX10_closes.desc).map (fun d => d.parameters.length) = some 0) ∧ 1 ≤ 80 := ⟨(tw1 12 rfl rfl), (tw5 204 rfl rfl), ⟨by decide +kernel, by decide +kernel, by decide +kernel⟩, by decide⟩
theorem ms_X10_closes : Cond.instanceMethod yX10_closes ∈ mm_T ∧ Cond.selects (mm_C 10).1 yX10_closes yX10_closes ∈ mm_T := ⟨(tw5 203 rfl rfl), (pw3 10 rfl rfl)⟩
theorem mc_X10_compare : Cond.initialized yX10_compare.cls ∈ mm_T ∧ Cond.code yX10_compare cX10_compare 5 (some .boolean) ∈ mm_T ∧ (yX10_compare.cls ≠ "java/lang/invoke/MethodHandle" ∧ yX10_compare.cls ≠ "java/lang/invoke/VarHandle" ∧ (parseMethodDescriptor yX10_compare.desc).map (fun d => d.parameters.length) = some 0) ∧ 5 ≤ 80 := ⟨(tw1 12 rfl rfl), (tw5 200 rfl rfl), ⟨by decide +kernel, by decide +kernel, by decide +kernel⟩, by decide⟩
theorem ms_X10_compare : Cond.instanceMethod yX10_compare ∈ mm_T ∧ Cond.selects (mm_C 10).1 yX10_compare yX10_compare ∈ mm_T := ⟨(tw5 199 rfl rfl), (pw3 9 rfl rfl)⟩
theorem mc_X10_draw : Cond.initialized yX10_draw.cls ∈ mm_T ∧ Cond.code yX10_draw cX10_draw 2 (some .int) ∈ mm_T ∧ (yX10_draw.cls ≠ "java/lang/invoke/MethodHandle" ∧ yX10_draw.cls ≠ "java/lang/invoke/VarHandle" ∧ (parseMethodDescriptor yX10_draw.desc).map (fun d => d.parameters.length) = some 1) ∧ 2 ≤ 80 := ⟨(tw1 12 rfl rfl), (tw7 32 rfl rfl), ⟨by decide +kernel, by decide +kernel, by decide +kernel⟩, by decide⟩
theorem ms_X10_draw : Cond.instanceMethod yX10_draw ∈ mm_T ∧ Cond.selects (mm_C 10).1 yX10_draw yX10_draw ∈ mm_T := ⟨(tw7 31 rfl rfl), (pw6 4 rfl rfl)⟩
theorem mc_X10_fact : Cond.initialized yX10_fact.cls ∈ mm_T ∧ Cond.code yX10_fact cX10_fact 3 (some .boolean) ∈ mm_T ∧ (yX10_fact.cls ≠ "java/lang/invoke/MethodHandle" ∧ yX10_fact.cls ≠ "java/lang/invoke/VarHandle" ∧ (parseMethodDescriptor yX10_fact.desc).map (fun d => d.parameters.length) = some 0) ∧ 3 ≤ 80 := ⟨(tw1 12 rfl rfl), (tw5 191 rfl rfl), ⟨by decide +kernel, by decide +kernel, by decide +kernel⟩, by decide⟩
theorem ms_X10_fact : Cond.instanceMethod yX10_fact ∈ mm_T ∧ Cond.selects (mm_C 10).1 yX10_fact yX10_fact ∈ mm_T := ⟨(tw5 190 rfl rfl), (pw3 7 rfl rfl)⟩
theorem mc_X10_fails : Cond.initialized yX10_fails.cls ∈ mm_T ∧ Cond.code yX10_fails cX10_fails 3 (some .boolean) ∈ mm_T ∧ (yX10_fails.cls ≠ "java/lang/invoke/MethodHandle" ∧ yX10_fails.cls ≠ "java/lang/invoke/VarHandle" ∧ (parseMethodDescriptor yX10_fails.desc).map (fun d => d.parameters.length) = some 2) ∧ 3 ≤ 80 := ⟨(tw1 12 rfl rfl), (tw5 99 rfl rfl), ⟨by decide +kernel, by decide +kernel, by decide +kernel⟩, by decide⟩
theorem ms_X10_fails : Cond.instanceMethod yX10_fails ∈ mm_T ∧ Cond.selects (mm_C 10).1 yX10_fails yX10_fails ∈ mm_T := ⟨(tw5 98 rfl rfl), (pw2 4 rfl rfl)⟩
theorem mc_X10_fillsFits : Cond.initialized yX10_fillsFits.cls ∈ mm_T ∧ Cond.code yX10_fillsFits cX10_fillsFits 4 none ∈ mm_T ∧ (yX10_fillsFits.cls ≠ "java/lang/invoke/MethodHandle" ∧ yX10_fillsFits.cls ≠ "java/lang/invoke/VarHandle" ∧ (parseMethodDescriptor yX10_fillsFits.desc).map (fun d => d.parameters.length) = some 0) ∧ 4 ≤ 80 := ⟨(tw1 12 rfl rfl), (tw7 4 rfl rfl), ⟨by decide +kernel, by decide +kernel, by decide +kernel⟩, by decide⟩
theorem ms_X10_fillsFits : Cond.instanceMethod yX10_fillsFits ∈ mm_T ∧ Cond.selects (mm_C 10).1 yX10_fillsFits yX10_fillsFits ∈ mm_T := ⟨(tw7 3 rfl rfl), (pw6 1 rfl rfl)⟩
theorem mc_X10_fillsRests : Cond.initialized yX10_fillsRests.cls ∈ mm_T ∧ Cond.code yX10_fillsRests cX10_fillsRests 6 none ∈ mm_T ∧ (yX10_fillsRests.cls ≠ "java/lang/invoke/MethodHandle" ∧ yX10_fillsRests.cls ≠ "java/lang/invoke/VarHandle" ∧ (parseMethodDescriptor yX10_fillsRests.desc).map (fun d => d.parameters.length) = some 3) ∧ 6 ≤ 80 := ⟨(tw1 12 rfl rfl), (tw6 224 rfl rfl), ⟨by decide +kernel, by decide +kernel, by decide +kernel⟩, by decide⟩
theorem ms_X10_fillsRests : Cond.instanceMethod yX10_fillsRests ∈ mm_T ∧ Cond.selects (mm_C 10).1 yX10_fillsRests yX10_fillsRests ∈ mm_T := ⟨(tw6 223 rfl rfl), (pw5 15 rfl rfl)⟩
theorem mc_X10_findsRow : Cond.initialized yX10_findsRow.cls ∈ mm_T ∧ Cond.code yX10_findsRow cX10_findsRow 2 none ∈ mm_T ∧ (yX10_findsRow.cls ≠ "java/lang/invoke/MethodHandle" ∧ yX10_findsRow.cls ≠ "java/lang/invoke/VarHandle" ∧ (parseMethodDescriptor yX10_findsRow.desc).map (fun d => d.parameters.length) = some 0) ∧ 2 ≤ 80 := ⟨(tw1 12 rfl rfl), (tw6 169 rfl rfl), ⟨by decide +kernel, by decide +kernel, by decide +kernel⟩, by decide⟩
theorem ms_X10_findsRow : Cond.instanceMethod yX10_findsRow ∈ mm_T ∧ Cond.selects (mm_C 10).1 yX10_findsRow yX10_findsRow ∈ mm_T := ⟨(tw6 168 rfl rfl), (pw5 9 rfl rfl)⟩
theorem mc_X10_four : Cond.initialized yX10_four.cls ∈ mm_T ∧ Cond.code yX10_four cX10_four 3 none ∈ mm_T ∧ (yX10_four.cls ≠ "java/lang/invoke/MethodHandle" ∧ yX10_four.cls ≠ "java/lang/invoke/VarHandle" ∧ (parseMethodDescriptor yX10_four.desc).map (fun d => d.parameters.length) = some 1) ∧ 3 ≤ 80 := ⟨(tw1 12 rfl rfl), (tw5 58 rfl rfl), ⟨by decide +kernel, by decide +kernel, by decide +kernel⟩, by decide⟩
theorem ms_X10_four : Cond.instanceMethod yX10_four ∈ mm_T ∧ Cond.selects (mm_C 10).1 yX10_four yX10_four ∈ mm_T := ⟨(tw5 57 rfl rfl), (pw1 13 rfl rfl)⟩
theorem mc_X10_goesIn : Cond.initialized yX10_goesIn.cls ∈ mm_T ∧ Cond.code yX10_goesIn cX10_goesIn 4 none ∈ mm_T ∧ (yX10_goesIn.cls ≠ "java/lang/invoke/MethodHandle" ∧ yX10_goesIn.cls ≠ "java/lang/invoke/VarHandle" ∧ (parseMethodDescriptor yX10_goesIn.desc).map (fun d => d.parameters.length) = some 0) ∧ 4 ≤ 80 := ⟨(tw1 12 rfl rfl), (tw6 34 rfl rfl), ⟨by decide +kernel, by decide +kernel, by decide +kernel⟩, by decide⟩
theorem ms_X10_goesIn : Cond.instanceMethod yX10_goesIn ∈ mm_T ∧ Cond.selects (mm_C 10).1 yX10_goesIn yX10_goesIn ∈ mm_T := ⟨(tw6 33 rfl rfl), (pw4 4 rfl rfl)⟩
theorem mc_X10_houseLineHere : Cond.initialized yX10_houseLineHere.cls ∈ mm_T ∧ Cond.code yX10_houseLineHere cX10_houseLineHere 2 (some .boolean) ∈ mm_T ∧ (yX10_houseLineHere.cls ≠ "java/lang/invoke/MethodHandle" ∧ yX10_houseLineHere.cls ≠ "java/lang/invoke/VarHandle" ∧ (parseMethodDescriptor yX10_houseLineHere.desc).map (fun d => d.parameters.length) = some 1) ∧ 2 ≤ 80 := ⟨(tw1 12 rfl rfl), (tw5 103 rfl rfl), ⟨by decide +kernel, by decide +kernel, by decide +kernel⟩, by decide⟩
theorem ms_X10_houseLineHere : Cond.instanceMethod yX10_houseLineHere ∈ mm_T ∧ Cond.selects (mm_C 10).1 yX10_houseLineHere yX10_houseLineHere ∈ mm_T := ⟨(tw5 102 rfl rfl), (pw2 5 rfl rfl)⟩
theorem mc_X10_in : Cond.initialized yX10_in.cls ∈ mm_T ∧ Cond.code yX10_in cX10_in 6 (some .boolean) ∈ mm_T ∧ (yX10_in.cls ≠ "java/lang/invoke/MethodHandle" ∧ yX10_in.cls ≠ "java/lang/invoke/VarHandle" ∧ (parseMethodDescriptor yX10_in.desc).map (fun d => d.parameters.length) = some 3) ∧ 6 ≤ 80 := ⟨(tw1 12 rfl rfl), (tw5 126 rfl rfl), ⟨by decide +kernel, by decide +kernel, by decide +kernel⟩, by decide⟩
theorem ms_X10_in : Cond.static yX10_in ∈ mm_T := (tw5 125 rfl rfl)
theorem mc_X10_inside : Cond.initialized yX10_inside.cls ∈ mm_T ∧ Cond.code yX10_inside cX10_inside 3 (some .int) ∈ mm_T ∧ (yX10_inside.cls ≠ "java/lang/invoke/MethodHandle" ∧ yX10_inside.cls ≠ "java/lang/invoke/VarHandle" ∧ (parseMethodDescriptor yX10_inside.desc).map (fun d => d.parameters.length) = some 0) ∧ 3 ≤ 80 := ⟨(tw1 12 rfl rfl), (tw6 77 rfl rfl), ⟨by decide +kernel, by decide +kernel, by decide +kernel⟩, by decide⟩
theorem ms_X10_inside : Cond.instanceMethod yX10_inside ∈ mm_T ∧ Cond.selects (mm_C 10).1 yX10_inside yX10_inside ∈ mm_T := ⟨(tw6 76 rfl rfl), (pw4 14 rfl rfl)⟩
theorem mc_X10_isCountHere : Cond.initialized yX10_isCountHere.cls ∈ mm_T ∧ Cond.code yX10_isCountHere cX10_isCountHere 1 (some .boolean) ∈ mm_T ∧ (yX10_isCountHere.cls ≠ "java/lang/invoke/MethodHandle" ∧ yX10_isCountHere.cls ≠ "java/lang/invoke/VarHandle" ∧ (parseMethodDescriptor yX10_isCountHere.desc).map (fun d => d.parameters.length) = some 0) ∧ 1 ≤ 80 := ⟨(tw1 12 rfl rfl), (tw5 138 rfl rfl), ⟨by decide +kernel, by decide +kernel, by decide +kernel⟩, by decide⟩
theorem ms_X10_isCountHere : Cond.instanceMethod yX10_isCountHere ∈ mm_T ∧ Cond.selects (mm_C 10).1 yX10_isCountHere yX10_isCountHere ∈ mm_T := ⟨(tw5 137 rfl rfl), (pw2 13 rfl rfl)⟩
theorem mc_X10_isCounted : Cond.initialized yX10_isCounted.cls ∈ mm_T ∧ Cond.code yX10_isCounted cX10_isCounted 1 (some .boolean) ∈ mm_T ∧ (yX10_isCounted.cls ≠ "java/lang/invoke/MethodHandle" ∧ yX10_isCounted.cls ≠ "java/lang/invoke/VarHandle" ∧ (parseMethodDescriptor yX10_isCounted.desc).map (fun d => d.parameters.length) = some 0) ∧ 1 ≤ 80 := ⟨(tw1 12 rfl rfl), (tw6 49 rfl rfl), ⟨by decide +kernel, by decide +kernel, by decide +kernel⟩, by decide⟩
theorem ms_X10_isCounted : Cond.instanceMethod yX10_isCounted ∈ mm_T ∧ Cond.selects (mm_C 10).1 yX10_isCounted yX10_isCounted ∈ mm_T := ⟨(tw6 48 rfl rfl), (pw4 7 rfl rfl)⟩
theorem mc_X10_isDearHere : Cond.initialized yX10_isDearHere.cls ∈ mm_T ∧ Cond.code yX10_isDearHere cX10_isDearHere 3 (some .boolean) ∈ mm_T ∧ (yX10_isDearHere.cls ≠ "java/lang/invoke/MethodHandle" ∧ yX10_isDearHere.cls ≠ "java/lang/invoke/VarHandle" ∧ (parseMethodDescriptor yX10_isDearHere.desc).map (fun d => d.parameters.length) = some 0) ∧ 3 ≤ 80 := ⟨(tw1 12 rfl rfl), (tw5 134 rfl rfl), ⟨by decide +kernel, by decide +kernel, by decide +kernel⟩, by decide⟩
theorem ms_X10_isDearHere : Cond.instanceMethod yX10_isDearHere ∈ mm_T ∧ Cond.selects (mm_C 10).1 yX10_isDearHere yX10_isDearHere ∈ mm_T := ⟨(tw5 133 rfl rfl), (pw2 12 rfl rfl)⟩
theorem mc_X10_isDigit : Cond.initialized yX10_isDigit.cls ∈ mm_T ∧ Cond.code yX10_isDigit cX10_isDigit 2 (some .boolean) ∈ mm_T ∧ (yX10_isDigit.cls ≠ "java/lang/invoke/MethodHandle" ∧ yX10_isDigit.cls ≠ "java/lang/invoke/VarHandle" ∧ (parseMethodDescriptor yX10_isDigit.desc).map (fun d => d.parameters.length) = some 1) ∧ 2 ≤ 80 := ⟨(tw1 12 rfl rfl), (tw5 123 rfl rfl), ⟨by decide +kernel, by decide +kernel, by decide +kernel⟩, by decide⟩
theorem ms_X10_isDigit : Cond.instanceMethod yX10_isDigit ∈ mm_T ∧ Cond.selects (mm_C 10).1 yX10_isDigit yX10_isDigit ∈ mm_T := ⟨(tw5 122 rfl rfl), (pw2 10 rfl rfl)⟩
theorem mc_X10_isHouse : Cond.initialized yX10_isHouse.cls ∈ mm_T ∧ Cond.code yX10_isHouse cX10_isHouse 1 (some .boolean) ∈ mm_T ∧ (yX10_isHouse.cls ≠ "java/lang/invoke/MethodHandle" ∧ yX10_isHouse.cls ≠ "java/lang/invoke/VarHandle" ∧ (parseMethodDescriptor yX10_isHouse.desc).map (fun d => d.parameters.length) = some 0) ∧ 1 ≤ 80 := ⟨(tw1 12 rfl rfl), (tw6 22 rfl rfl), ⟨by decide +kernel, by decide +kernel, by decide +kernel⟩, by decide⟩
theorem ms_X10_isHouse : Cond.instanceMethod yX10_isHouse ∈ mm_T ∧ Cond.selects (mm_C 10).1 yX10_isHouse yX10_isHouse ∈ mm_T := ⟨(tw6 21 rfl rfl), (pw4 1 rfl rfl)⟩
theorem mc_X10_isHouseHere : Cond.initialized yX10_isHouseHere.cls ∈ mm_T ∧ Cond.code yX10_isHouseHere cX10_isHouseHere 2 (some .boolean) ∈ mm_T ∧ (yX10_isHouseHere.cls ≠ "java/lang/invoke/MethodHandle" ∧ yX10_isHouseHere.cls ≠ "java/lang/invoke/VarHandle" ∧ (parseMethodDescriptor yX10_isHouseHere.desc).map (fun d => d.parameters.length) = some 1) ∧ 2 ≤ 80 := ⟨(tw1 12 rfl rfl), (tw5 107 rfl rfl), ⟨by decide +kernel, by decide +kernel, by decide +kernel⟩, by decide⟩
theorem ms_X10_isHouseHere : Cond.instanceMethod yX10_isHouseHere ∈ mm_T ∧ Cond.selects (mm_C 10).1 yX10_isHouseHere yX10_isHouseHere ∈ mm_T := ⟨(tw5 106 rfl rfl), (pw2 6 rfl rfl)⟩
theorem mc_X10_isHouseWord : Cond.initialized yX10_isHouseWord.cls ∈ mm_T ∧ Cond.code yX10_isHouseWord cX10_isHouseWord 1 (some .boolean) ∈ mm_T ∧ (yX10_isHouseWord.cls ≠ "java/lang/invoke/MethodHandle" ∧ yX10_isHouseWord.cls ≠ "java/lang/invoke/VarHandle" ∧ (parseMethodDescriptor yX10_isHouseWord.desc).map (fun d => d.parameters.length) = some 0) ∧ 1 ≤ 80 := ⟨(tw1 12 rfl rfl), (tw5 82 rfl rfl), ⟨by decide +kernel, by decide +kernel, by decide +kernel⟩, by decide⟩
theorem ms_X10_isHouseWord : Cond.instanceMethod yX10_isHouseWord ∈ mm_T ∧ Cond.selects (mm_C 10).1 yX10_isHouseWord yX10_isHouseWord ∈ mm_T := ⟨(tw5 81 rfl rfl), (pw2 1 rfl rfl)⟩
theorem mc_X10_isIn : Cond.initialized yX10_isIn.cls ∈ mm_T ∧ Cond.code yX10_isIn cX10_isIn 2 (some .boolean) ∈ mm_T ∧ (yX10_isIn.cls ≠ "java/lang/invoke/MethodHandle" ∧ yX10_isIn.cls ≠ "java/lang/invoke/VarHandle" ∧ (parseMethodDescriptor yX10_isIn.desc).map (fun d => d.parameters.length) = some 1) ∧ 2 ≤ 80 := ⟨(tw1 12 rfl rfl), (tw6 57 rfl rfl), ⟨by decide +kernel, by decide +kernel, by decide +kernel⟩, by decide⟩
theorem ms_X10_isIn : Cond.instanceMethod yX10_isIn ∈ mm_T ∧ Cond.selects (mm_C 10).1 yX10_isIn yX10_isIn ∈ mm_T := ⟨(tw6 56 rfl rfl), (pw4 9 rfl rfl)⟩
theorem mc_X10_isInside : Cond.initialized yX10_isInside.cls ∈ mm_T ∧ Cond.code yX10_isInside cX10_isInside 2 (some .boolean) ∈ mm_T ∧ (yX10_isInside.cls ≠ "java/lang/invoke/MethodHandle" ∧ yX10_isInside.cls ≠ "java/lang/invoke/VarHandle" ∧ (parseMethodDescriptor yX10_isInside.desc).map (fun d => d.parameters.length) = some 0) ∧ 2 ≤ 80 := ⟨(tw1 12 rfl rfl), (tw5 215 rfl rfl), ⟨by decide +kernel, by decide +kernel, by decide +kernel⟩, by decide⟩
theorem ms_X10_isInside : Cond.instanceMethod yX10_isInside ∈ mm_T ∧ Cond.selects (mm_C 10).1 yX10_isInside yX10_isInside ∈ mm_T := ⟨(tw5 214 rfl rfl), (pw3 12 rfl rfl)⟩
theorem mc_X10_isLetter : Cond.initialized yX10_isLetter.cls ∈ mm_T ∧ Cond.code yX10_isLetter cX10_isLetter 2 (some .boolean) ∈ mm_T ∧ (yX10_isLetter.cls ≠ "java/lang/invoke/MethodHandle" ∧ yX10_isLetter.cls ≠ "java/lang/invoke/VarHandle" ∧ (parseMethodDescriptor yX10_isLetter.desc).map (fun d => d.parameters.length) = some 1) ∧ 2 ≤ 80 := ⟨(tw1 12 rfl rfl), (tw5 91 rfl rfl), ⟨by decide +kernel, by decide +kernel, by decide +kernel⟩, by decide⟩
theorem ms_X10_isLetter : Cond.instanceMethod yX10_isLetter ∈ mm_T ∧ Cond.selects (mm_C 10).1 yX10_isLetter yX10_isLetter ∈ mm_T := ⟨(tw5 90 rfl rfl), (pw2 3 rfl rfl)⟩
theorem mc_X10_isLodger : Cond.initialized yX10_isLodger.cls ∈ mm_T ∧ Cond.code yX10_isLodger cX10_isLodger 2 (some .boolean) ∈ mm_T ∧ (yX10_isLodger.cls ≠ "java/lang/invoke/MethodHandle" ∧ yX10_isLodger.cls ≠ "java/lang/invoke/VarHandle" ∧ (parseMethodDescriptor yX10_isLodger.desc).map (fun d => d.parameters.length) = some 1) ∧ 2 ≤ 80 := ⟨(tw1 12 rfl rfl), (tw6 1 rfl rfl), ⟨by decide +kernel, by decide +kernel, by decide +kernel⟩, by decide⟩
theorem ms_X10_isLodger : Cond.instanceMethod yX10_isLodger ∈ mm_T ∧ Cond.selects (mm_C 10).1 yX10_isLodger yX10_isLodger ∈ mm_T := ⟨(tw6 0 rfl rfl), (pw3 15 rfl rfl)⟩
theorem mc_X10_isLodgerHere : Cond.initialized yX10_isLodgerHere.cls ∈ mm_T ∧ Cond.code yX10_isLodgerHere cX10_isLodgerHere 2 (some .boolean) ∈ mm_T ∧ (yX10_isLodgerHere.cls ≠ "java/lang/invoke/MethodHandle" ∧ yX10_isLodgerHere.cls ≠ "java/lang/invoke/VarHandle" ∧ (parseMethodDescriptor yX10_isLodgerHere.desc).map (fun d => d.parameters.length) = some 1) ∧ 2 ≤ 80 := ⟨(tw1 12 rfl rfl), (tw5 130 rfl rfl), ⟨by decide +kernel, by decide +kernel, by decide +kernel⟩, by decide⟩
theorem ms_X10_isLodgerHere : Cond.instanceMethod yX10_isLodgerHere ∈ mm_T ∧ Cond.selects (mm_C 10).1 yX10_isLodgerHere yX10_isLodgerHere ∈ mm_T := ⟨(tw5 129 rfl rfl), (pw2 11 rfl rfl)⟩
theorem mc_X10_isNobodyWeary : Cond.initialized yX10_isNobodyWeary.cls ∈ mm_T ∧ Cond.code yX10_isNobodyWeary cX10_isNobodyWeary 2 (some .boolean) ∈ mm_T ∧ (yX10_isNobodyWeary.cls ≠ "java/lang/invoke/MethodHandle" ∧ yX10_isNobodyWeary.cls ≠ "java/lang/invoke/VarHandle" ∧ (parseMethodDescriptor yX10_isNobodyWeary.desc).map (fun d => d.parameters.length) = some 0) ∧ 2 ≤ 80 := ⟨(tw1 12 rfl rfl), (tw6 187 rfl rfl), ⟨by decide +kernel, by decide +kernel, by decide +kernel⟩, by decide⟩
theorem ms_X10_isNobodyWeary : Cond.instanceMethod yX10_isNobodyWeary ∈ mm_T ∧ Cond.selects (mm_C 10).1 yX10_isNobodyWeary yX10_isNobodyWeary ∈ mm_T := ⟨(tw6 186 rfl rfl), (pw5 11 rfl rfl)⟩
theorem mc_X10_isOf : Cond.initialized yX10_isOf.cls ∈ mm_T ∧ Cond.code yX10_isOf cX10_isOf 2 (some .boolean) ∈ mm_T ∧ (yX10_isOf.cls ≠ "java/lang/invoke/MethodHandle" ∧ yX10_isOf.cls ≠ "java/lang/invoke/VarHandle" ∧ (parseMethodDescriptor yX10_isOf.desc).map (fun d => d.parameters.length) = some 2) ∧ 2 ≤ 80 := ⟨(tw1 12 rfl rfl), (tw6 45 rfl rfl), ⟨by decide +kernel, by decide +kernel, by decide +kernel⟩, by decide⟩
theorem ms_X10_isOf : Cond.static yX10_isOf ∈ mm_T := (tw6 44 rfl rfl)
theorem mc_X10_isRest : Cond.initialized yX10_isRest.cls ∈ mm_T ∧ Cond.code yX10_isRest cX10_isRest 6 (some .boolean) ∈ mm_T ∧ (yX10_isRest.cls ≠ "java/lang/invoke/MethodHandle" ∧ yX10_isRest.cls ≠ "java/lang/invoke/VarHandle" ∧ (parseMethodDescriptor yX10_isRest.desc).map (fun d => d.parameters.length) = some 4) ∧ 6 ≤ 80 := ⟨(tw1 12 rfl rfl), (tw6 228 rfl rfl), ⟨by decide +kernel, by decide +kernel, by decide +kernel⟩, by decide⟩
theorem ms_X10_isRest : Cond.instanceMethod yX10_isRest ∈ mm_T ∧ Cond.selects (mm_C 10).1 yX10_isRest yX10_isRest ∈ mm_T := ⟨(tw6 227 rfl rfl), (pw6 0 rfl rfl)⟩
theorem mc_X10_isRule : Cond.initialized yX10_isRule.cls ∈ mm_T ∧ Cond.code yX10_isRule cX10_isRule 2 (some .boolean) ∈ mm_T ∧ (yX10_isRule.cls ≠ "java/lang/invoke/MethodHandle" ∧ yX10_isRule.cls ≠ "java/lang/invoke/VarHandle" ∧ (parseMethodDescriptor yX10_isRule.desc).map (fun d => d.parameters.length) = some 1) ∧ 2 ≤ 80 := ⟨(tw1 12 rfl rfl), (tw5 233 rfl rfl), ⟨by decide +kernel, by decide +kernel, by decide +kernel⟩, by decide⟩
theorem ms_X10_isRule : Cond.instanceMethod yX10_isRule ∈ mm_T ∧ Cond.selects (mm_C 10).1 yX10_isRule yX10_isRule ∈ mm_T := ⟨(tw5 232 rfl rfl), (pw3 14 rfl rfl)⟩
theorem mc_X10_isSeekHere : Cond.initialized yX10_isSeekHere.cls ∈ mm_T ∧ Cond.code yX10_isSeekHere cX10_isSeekHere 2 (some .boolean) ∈ mm_T ∧ (yX10_isSeekHere.cls ≠ "java/lang/invoke/MethodHandle" ∧ yX10_isSeekHere.cls ≠ "java/lang/invoke/VarHandle" ∧ (parseMethodDescriptor yX10_isSeekHere.desc).map (fun d => d.parameters.length) = some 0) ∧ 2 ≤ 80 := ⟨(tw1 12 rfl rfl), (tw5 142 rfl rfl), ⟨by decide +kernel, by decide +kernel, by decide +kernel⟩, by decide⟩
theorem ms_X10_isSeekHere : Cond.instanceMethod yX10_isSeekHere ∈ mm_T ∧ Cond.selects (mm_C 10).1 yX10_isSeekHere yX10_isSeekHere ∈ mm_T := ⟨(tw5 141 rfl rfl), (pw2 14 rfl rfl)⟩
theorem mc_X10_isWord : Cond.initialized yX10_isWord.cls ∈ mm_T ∧ Cond.code yX10_isWord cX10_isWord 6 (some .boolean) ∈ mm_T ∧ (yX10_isWord.cls ≠ "java/lang/invoke/MethodHandle" ∧ yX10_isWord.cls ≠ "java/lang/invoke/VarHandle" ∧ (parseMethodDescriptor yX10_isWord.desc).map (fun d => d.parameters.length) = some 1) ∧ 6 ≤ 80 := ⟨(tw1 12 rfl rfl), (tw5 87 rfl rfl), ⟨by decide +kernel, by decide +kernel, by decide +kernel⟩, by decide⟩
theorem ms_X10_isWord : Cond.instanceMethod yX10_isWord ∈ mm_T ∧ Cond.selects (mm_C 10).1 yX10_isWord yX10_isWord ∈ mm_T := ⟨(tw5 86 rfl rfl), (pw2 2 rfl rfl)⟩
theorem mc_X10_keeps : Cond.initialized yX10_keeps.cls ∈ mm_T ∧ Cond.code yX10_keeps cX10_keeps 2 none ∈ mm_T ∧ (yX10_keeps.cls ≠ "java/lang/invoke/MethodHandle" ∧ yX10_keeps.cls ≠ "java/lang/invoke/VarHandle" ∧ (parseMethodDescriptor yX10_keeps.desc).map (fun d => d.parameters.length) = some 0) ∧ 2 ≤ 80 := ⟨(tw1 12 rfl rfl), (tw6 135 rfl rfl), ⟨by decide +kernel, by decide +kernel, by decide +kernel⟩, by decide⟩
theorem ms_X10_keeps : Cond.instanceMethod yX10_keeps ∈ mm_T ∧ Cond.selects (mm_C 10).1 yX10_keeps yX10_keeps ∈ mm_T := ⟨(tw6 134 rfl rfl), (pw5 5 rfl rfl)⟩
theorem mc_X10_keepsAct : Cond.initialized yX10_keepsAct.cls ∈ mm_T ∧ Cond.code yX10_keepsAct cX10_keepsAct 2 none ∈ mm_T ∧ (yX10_keepsAct.cls ≠ "java/lang/invoke/MethodHandle" ∧ yX10_keepsAct.cls ≠ "java/lang/invoke/VarHandle" ∧ (parseMethodDescriptor yX10_keepsAct.desc).map (fun d => d.parameters.length) = some 0) ∧ 2 ≤ 80 := ⟨(tw1 12 rfl rfl), (tw6 26 rfl rfl), ⟨by decide +kernel, by decide +kernel, by decide +kernel⟩, by decide⟩
theorem ms_X10_keepsAct : Cond.instanceMethod yX10_keepsAct ∈ mm_T ∧ Cond.selects (mm_C 10).1 yX10_keepsAct yX10_keepsAct ∈ mm_T := ⟨(tw6 25 rfl rfl), (pw4 2 rfl rfl)⟩
theorem mc_X10_layDown : Cond.initialized yX10_layDown.cls ∈ mm_T ∧ Cond.code yX10_layDown cX10_layDown 2 none ∈ mm_T ∧ (yX10_layDown.cls ≠ "java/lang/invoke/MethodHandle" ∧ yX10_layDown.cls ≠ "java/lang/invoke/VarHandle" ∧ (parseMethodDescriptor yX10_layDown.desc).map (fun d => d.parameters.length) = some 1) ∧ 2 ≤ 80 := ⟨(tw1 12 rfl rfl), (tw5 208 rfl rfl), ⟨by decide +kernel, by decide +kernel, by decide +kernel⟩, by decide⟩
theorem ms_X10_layDown : Cond.instanceMethod yX10_layDown ∈ mm_T ∧ Cond.selects (mm_C 10).1 yX10_layDown yX10_layDown ∈ mm_T := ⟨(tw5 207 rfl rfl), (pw3 11 rfl rfl)⟩
theorem mc_X10_laysBack : Cond.initialized yX10_laysBack.cls ∈ mm_T ∧ Cond.code yX10_laysBack cX10_laysBack 2 none ∈ mm_T ∧ (yX10_laysBack.cls ≠ "java/lang/invoke/MethodHandle" ∧ yX10_laysBack.cls ≠ "java/lang/invoke/VarHandle" ∧ (parseMethodDescriptor yX10_laysBack.desc).map (fun d => d.parameters.length) = some 0) ∧ 2 ≤ 80 := ⟨(tw1 12 rfl rfl), (tw6 147 rfl rfl), ⟨by decide +kernel, by decide +kernel, by decide +kernel⟩, by decide⟩
theorem ms_X10_laysBack : Cond.instanceMethod yX10_laysBack ∈ mm_T ∧ Cond.selects (mm_C 10).1 yX10_laysBack yX10_laysBack ∈ mm_T := ⟨(tw6 146 rfl rfl), (pw5 8 rfl rfl)⟩
theorem mc_X10_makes : Cond.initialized yX10_makes.cls ∈ mm_T ∧ Cond.code yX10_makes cX10_makes 2 (some .boolean) ∈ mm_T ∧ (yX10_makes.cls ≠ "java/lang/invoke/MethodHandle" ∧ yX10_makes.cls ≠ "java/lang/invoke/VarHandle" ∧ (parseMethodDescriptor yX10_makes.desc).map (fun d => d.parameters.length) = some 1) ∧ 2 ≤ 80 := ⟨(tw1 12 rfl rfl), (tw5 159 rfl rfl), ⟨by decide +kernel, by decide +kernel, by decide +kernel⟩, by decide⟩
theorem ms_X10_makes : Cond.instanceMethod yX10_makes ∈ mm_T ∧ Cond.selects (mm_C 10).1 yX10_makes yX10_makes ∈ mm_T := ⟨(tw5 158 rfl rfl), (pw3 2 rfl rfl)⟩
theorem mc_X10_numberHere : Cond.initialized yX10_numberHere.cls ∈ mm_T ∧ Cond.code yX10_numberHere cX10_numberHere 5 (some .boolean) ∈ mm_T ∧ (yX10_numberHere.cls ≠ "java/lang/invoke/MethodHandle" ∧ yX10_numberHere.cls ≠ "java/lang/invoke/VarHandle" ∧ (parseMethodDescriptor yX10_numberHere.desc).map (fun d => d.parameters.length) = some 2) ∧ 5 ≤ 80 := ⟨(tw1 12 rfl rfl), (tw5 119 rfl rfl), ⟨by decide +kernel, by decide +kernel, by decide +kernel⟩, by decide⟩
theorem ms_X10_numberHere : Cond.instanceMethod yX10_numberHere ∈ mm_T ∧ Cond.selects (mm_C 10).1 yX10_numberHere yX10_numberHere ∈ mm_T := ⟨(tw5 118 rfl rfl), (pw2 9 rfl rfl)⟩
theorem mc_X10_one : Cond.initialized yX10_one.cls ∈ mm_T ∧ Cond.code yX10_one cX10_one 5 (some .long) ∈ mm_T ∧ (yX10_one.cls ≠ "java/lang/invoke/MethodHandle" ∧ yX10_one.cls ≠ "java/lang/invoke/VarHandle" ∧ (parseMethodDescriptor yX10_one.desc).map (fun d => d.parameters.length) = some 3) ∧ 5 ≤ 80 := ⟨(tw1 12 rfl rfl), (tw6 99 rfl rfl), ⟨by decide +kernel, by decide +kernel, by decide +kernel⟩, by decide⟩
theorem ms_X10_one : Cond.static yX10_one ∈ mm_T := (tw6 98 rfl rfl)
theorem mc_X10_opens : Cond.initialized yX10_opens.cls ∈ mm_T ∧ Cond.code yX10_opens cX10_opens 2 (some .boolean) ∈ mm_T ∧ (yX10_opens.cls ≠ "java/lang/invoke/MethodHandle" ∧ yX10_opens.cls ≠ "java/lang/invoke/VarHandle" ∧ (parseMethodDescriptor yX10_opens.desc).map (fun d => d.parameters.length) = some 1) ∧ 2 ≤ 80 := ⟨(tw1 12 rfl rfl), (tw5 196 rfl rfl), ⟨by decide +kernel, by decide +kernel, by decide +kernel⟩, by decide⟩
theorem ms_X10_opens : Cond.instanceMethod yX10_opens ∈ mm_T ∧ Cond.selects (mm_C 10).1 yX10_opens yX10_opens ∈ mm_T := ⟨(tw5 195 rfl rfl), (pw3 8 rfl rfl)⟩
theorem mc_X10_passWord : Cond.initialized yX10_passWord.cls ∈ mm_T ∧ Cond.code yX10_passWord cX10_passWord 1 none ∈ mm_T ∧ (yX10_passWord.cls ≠ "java/lang/invoke/MethodHandle" ∧ yX10_passWord.cls ≠ "java/lang/invoke/VarHandle" ∧ (parseMethodDescriptor yX10_passWord.desc).map (fun d => d.parameters.length) = some 0) ∧ 1 ≤ 80 := ⟨(tw1 12 rfl rfl), (tw5 111 rfl rfl), ⟨by decide +kernel, by decide +kernel, by decide +kernel⟩, by decide⟩
theorem ms_X10_passWord : Cond.instanceMethod yX10_passWord ∈ mm_T ∧ Cond.selects (mm_C 10).1 yX10_passWord yX10_passWord ∈ mm_T := ⟨(tw5 110 rfl rfl), (pw2 7 rfl rfl)⟩
theorem mc_X10_passes : Cond.initialized yX10_passes.cls ∈ mm_T ∧ Cond.code yX10_passes cX10_passes 2 (some .int) ∈ mm_T ∧ (yX10_passes.cls ≠ "java/lang/invoke/MethodHandle" ∧ yX10_passes.cls ≠ "java/lang/invoke/VarHandle" ∧ (parseMethodDescriptor yX10_passes.desc).map (fun d => d.parameters.length) = some 0) ∧ 2 ≤ 80 := ⟨(tw1 12 rfl rfl), (tw6 30 rfl rfl), ⟨by decide +kernel, by decide +kernel, by decide +kernel⟩, by decide⟩
theorem ms_X10_passes : Cond.instanceMethod yX10_passes ∈ mm_T ∧ Cond.selects (mm_C 10).1 yX10_passes yX10_passes ∈ mm_T := ⟨(tw6 29 rfl rfl), (pw4 3 rfl rfl)⟩
theorem mc_X10_passesAll : Cond.initialized yX10_passesAll.cls ∈ mm_T ∧ Cond.code yX10_passesAll cX10_passesAll 3 none ∈ mm_T ∧ (yX10_passesAll.cls ≠ "java/lang/invoke/MethodHandle" ∧ yX10_passesAll.cls ≠ "java/lang/invoke/VarHandle" ∧ (parseMethodDescriptor yX10_passesAll.desc).map (fun d => d.parameters.length) = some 1) ∧ 3 ≤ 80 := ⟨(tw1 12 rfl rfl), (tw6 139 rfl rfl), ⟨by decide +kernel, by decide +kernel, by decide +kernel⟩, by decide⟩
theorem ms_X10_passesAll : Cond.instanceMethod yX10_passesAll ∈ mm_T ∧ Cond.selects (mm_C 10).1 yX10_passesAll yX10_passesAll ∈ mm_T := ⟨(tw6 138 rfl rfl), (pw5 6 rfl rfl)⟩
theorem mc_X10_pays : Cond.initialized yX10_pays.cls ∈ mm_T ∧ Cond.code yX10_pays cX10_pays 3 none ∈ mm_T ∧ (yX10_pays.cls ≠ "java/lang/invoke/MethodHandle" ∧ yX10_pays.cls ≠ "java/lang/invoke/VarHandle" ∧ (parseMethodDescriptor yX10_pays.desc).map (fun d => d.parameters.length) = some 1) ∧ 3 ≤ 80 := ⟨(tw1 12 rfl rfl), (tw6 107 rfl rfl), ⟨by decide +kernel, by decide +kernel, by decide +kernel⟩, by decide⟩
theorem ms_X10_pays : Cond.instanceMethod yX10_pays ∈ mm_T ∧ Cond.selects (mm_C 10).1 yX10_pays yX10_pays ∈ mm_T := ⟨(tw6 106 rfl rfl), (pw5 4 rfl rfl)⟩
theorem mc_X10_penceOf : Cond.initialized yX10_penceOf.cls ∈ mm_T ∧ Cond.code yX10_penceOf cX10_penceOf 2 (some .int) ∈ mm_T ∧ (yX10_penceOf.cls ≠ "java/lang/invoke/MethodHandle" ∧ yX10_penceOf.cls ≠ "java/lang/invoke/VarHandle" ∧ (parseMethodDescriptor yX10_penceOf.desc).map (fun d => d.parameters.length) = some 1) ∧ 2 ≤ 80 := ⟨(tw1 12 rfl rfl), (tw6 73 rfl rfl), ⟨by decide +kernel, by decide +kernel, by decide +kernel⟩, by decide⟩
theorem ms_X10_penceOf : Cond.instanceMethod yX10_penceOf ∈ mm_T ∧ Cond.selects (mm_C 10).1 yX10_penceOf yX10_penceOf ∈ mm_T := ⟨(tw6 72 rfl rfl), (pw4 13 rfl rfl)⟩
theorem mc_X10_pop : Cond.initialized yX10_pop.cls ∈ mm_T ∧ Cond.code yX10_pop cX10_pop 1 (some .long) ∈ mm_T ∧ (yX10_pop.cls ≠ "java/lang/invoke/MethodHandle" ∧ yX10_pop.cls ≠ "java/lang/invoke/VarHandle" ∧ (parseMethodDescriptor yX10_pop.desc).map (fun d => d.parameters.length) = some 0) ∧ 1 ≤ 80 := ⟨(tw1 12 rfl rfl), (tw6 96 rfl rfl), ⟨by decide +kernel, by decide +kernel, by decide +kernel⟩, by decide⟩
theorem ms_X10_pop : Cond.instanceMethod yX10_pop ∈ mm_T ∧ Cond.selects (mm_C 10).1 yX10_pop yX10_pop ∈ mm_T := ⟨(tw6 95 rfl rfl), (pw5 2 rfl rfl)⟩
theorem mc_X10_push : Cond.initialized yX10_push.cls ∈ mm_T ∧ Cond.code yX10_push cX10_push 3 none ∈ mm_T ∧ (yX10_push.cls ≠ "java/lang/invoke/MethodHandle" ∧ yX10_push.cls ≠ "java/lang/invoke/VarHandle" ∧ (parseMethodDescriptor yX10_push.desc).map (fun d => d.parameters.length) = some 1) ∧ 3 ≤ 80 := ⟨(tw1 12 rfl rfl), (tw6 92 rfl rfl), ⟨by decide +kernel, by decide +kernel, by decide +kernel⟩, by decide⟩
theorem ms_X10_push : Cond.instanceMethod yX10_push ∈ mm_T ∧ Cond.selects (mm_C 10).1 yX10_push yX10_push ∈ mm_T := ⟨(tw6 91 rfl rfl), (pw5 1 rfl rfl)⟩
theorem mc_X10_puts : Cond.initialized yX10_puts.cls ∈ mm_T ∧ Cond.code yX10_puts cX10_puts 3 none ∈ mm_T ∧ (yX10_puts.cls ≠ "java/lang/invoke/MethodHandle" ∧ yX10_puts.cls ≠ "java/lang/invoke/VarHandle" ∧ (parseMethodDescriptor yX10_puts.desc).map (fun d => d.parameters.length) = some 2) ∧ 3 ≤ 80 := ⟨(tw1 12 rfl rfl), (tw5 163 rfl rfl), ⟨by decide +kernel, by decide +kernel, by decide +kernel⟩, by decide⟩
theorem ms_X10_puts : Cond.instanceMethod yX10_puts ∈ mm_T ∧ Cond.selects (mm_C 10).1 yX10_puts yX10_puts ∈ mm_T := ⟨(tw5 162 rfl rfl), (pw3 3 rfl rfl)⟩
theorem mc_X10_readsAll : Cond.initialized yX10_readsAll.cls ∈ mm_T ∧ Cond.code yX10_readsAll cX10_readsAll 2 (some .boolean) ∈ mm_T ∧ (yX10_readsAll.cls ≠ "java/lang/invoke/MethodHandle" ∧ yX10_readsAll.cls ≠ "java/lang/invoke/VarHandle" ∧ (parseMethodDescriptor yX10_readsAll.desc).map (fun d => d.parameters.length) = some 0) ∧ 2 ≤ 80 := ⟨(tw1 12 rfl rfl), (tw5 70 rfl rfl), ⟨by decide +kernel, by decide +kernel, by decide +kernel⟩, by decide⟩
theorem ms_X10_readsAll : Cond.instanceMethod yX10_readsAll ∈ mm_T ∧ Cond.selects (mm_C 10).1 yX10_readsAll yX10_readsAll ∈ mm_T := ⟨(tw5 69 rfl rfl), (pw1 14 rfl rfl)⟩
theorem mc_X10_reckons : Cond.initialized yX10_reckons.cls ∈ mm_T ∧ Cond.code yX10_reckons cX10_reckons 11 (some .long) ∈ mm_T ∧ (yX10_reckons.cls ≠ "java/lang/invoke/MethodHandle" ∧ yX10_reckons.cls ≠ "java/lang/invoke/VarHandle" ∧ (parseMethodDescriptor yX10_reckons.desc).map (fun d => d.parameters.length) = some 3) ∧ 11 ≤ 80 := ⟨(tw1 12 rfl rfl), (tw6 88 rfl rfl), ⟨by decide +kernel, by decide +kernel, by decide +kernel⟩, by decide⟩
theorem ms_X10_reckons : Cond.instanceMethod yX10_reckons ∈ mm_T ∧ Cond.selects (mm_C 10).1 yX10_reckons yX10_reckons ∈ mm_T := ⟨(tw6 87 rfl rfl), (pw5 0 rfl rfl)⟩
theorem mc_X10_see : Cond.initialized yX10_see.cls ∈ mm_T ∧ Cond.code yX10_see cX10_see 1 (some .int) ∈ mm_T ∧ (yX10_see.cls ≠ "java/lang/invoke/MethodHandle" ∧ yX10_see.cls ≠ "java/lang/invoke/VarHandle" ∧ (parseMethodDescriptor yX10_see.desc).map (fun d => d.parameters.length) = some 0) ∧ 1 ≤ 80 := ⟨(tw1 12 rfl rfl), (tw5 78 rfl rfl), ⟨by decide +kernel, by decide +kernel, by decide +kernel⟩, by decide⟩
theorem ms_X10_see : Cond.instanceMethod yX10_see ∈ mm_T ∧ Cond.selects (mm_C 10).1 yX10_see yX10_see ∈ mm_T := ⟨(tw5 77 rfl rfl), (pw2 0 rfl rfl)⟩
theorem mc_X10_seeks : Cond.initialized yX10_seeks.cls ∈ mm_T ∧ Cond.code yX10_seeks cX10_seeks 4 none ∈ mm_T ∧ (yX10_seeks.cls ≠ "java/lang/invoke/MethodHandle" ∧ yX10_seeks.cls ≠ "java/lang/invoke/VarHandle" ∧ (parseMethodDescriptor yX10_seeks.desc).map (fun d => d.parameters.length) = some 0) ∧ 4 ≤ 80 := ⟨(tw1 12 rfl rfl), (tw6 53 rfl rfl), ⟨by decide +kernel, by decide +kernel, by decide +kernel⟩, by decide⟩
theorem ms_X10_seeks : Cond.instanceMethod yX10_seeks ∈ mm_T ∧ Cond.selects (mm_C 10).1 yX10_seeks yX10_seeks ∈ mm_T := ⟨(tw6 52 rfl rfl), (pw4 8 rfl rfl)⟩
theorem mc_X10_sleeps1 : Cond.initialized yX10_sleeps1.cls ∈ mm_T ∧ Cond.code yX10_sleeps1 cX10_sleeps1 3 none ∈ mm_T ∧ (yX10_sleeps1.cls ≠ "java/lang/invoke/MethodHandle" ∧ yX10_sleeps1.cls ≠ "java/lang/invoke/VarHandle" ∧ (parseMethodDescriptor yX10_sleeps1.desc).map (fun d => d.parameters.length) = some 0) ∧ 3 ≤ 80 := ⟨(tw1 12 rfl rfl), (tw6 103 rfl rfl), ⟨by decide +kernel, by decide +kernel, by decide +kernel⟩, by decide⟩
theorem ms_X10_sleeps1 : Cond.instanceMethod yX10_sleeps1 ∈ mm_T ∧ Cond.selects (mm_C 10).1 yX10_sleeps1 yX10_sleeps1 ∈ mm_T := ⟨(tw6 102 rfl rfl), (pw5 3 rfl rfl)⟩
theorem mc_X10_sleptAll : Cond.initialized yX10_sleptAll.cls ∈ mm_T ∧ Cond.code yX10_sleptAll cX10_sleptAll 3 (some .int) ∈ mm_T ∧ (yX10_sleptAll.cls ≠ "java/lang/invoke/MethodHandle" ∧ yX10_sleptAll.cls ≠ "java/lang/invoke/VarHandle" ∧ (parseMethodDescriptor yX10_sleptAll.desc).map (fun d => d.parameters.length) = some 0) ∧ 3 ≤ 80 := ⟨(tw1 12 rfl rfl), (tw6 199 rfl rfl), ⟨by decide +kernel, by decide +kernel, by decide +kernel⟩, by decide⟩
theorem ms_X10_sleptAll : Cond.instanceMethod yX10_sleptAll ∈ mm_T ∧ Cond.selects (mm_C 10).1 yX10_sleptAll yX10_sleptAll ∈ mm_T := ⟨(tw6 198 rfl rfl), (pw5 13 rfl rfl)⟩
theorem mc_X10_sleptBy : Cond.initialized yX10_sleptBy.cls ∈ mm_T ∧ Cond.code yX10_sleptBy cX10_sleptBy 2 (some .int) ∈ mm_T ∧ (yX10_sleptBy.cls ≠ "java/lang/invoke/MethodHandle" ∧ yX10_sleptBy.cls ≠ "java/lang/invoke/VarHandle" ∧ (parseMethodDescriptor yX10_sleptBy.desc).map (fun d => d.parameters.length) = some 1) ∧ 2 ≤ 80 := ⟨(tw1 12 rfl rfl), (tw6 143 rfl rfl), ⟨by decide +kernel, by decide +kernel, by decide +kernel⟩, by decide⟩
theorem ms_X10_sleptBy : Cond.instanceMethod yX10_sleptBy ∈ mm_T ∧ Cond.selects (mm_C 10).1 yX10_sleptBy yX10_sleptBy ∈ mm_T := ⟨(tw6 142 rfl rfl), (pw5 7 rfl rfl)⟩
theorem mc_X10_sleptIn : Cond.initialized yX10_sleptIn.cls ∈ mm_T ∧ Cond.code yX10_sleptIn cX10_sleptIn 4 (some .int) ∈ mm_T ∧ (yX10_sleptIn.cls ≠ "java/lang/invoke/MethodHandle" ∧ yX10_sleptIn.cls ≠ "java/lang/invoke/VarHandle" ∧ (parseMethodDescriptor yX10_sleptIn.desc).map (fun d => d.parameters.length) = some 1) ∧ 4 ≤ 80 := ⟨(tw1 12 rfl rfl), (tw6 195 rfl rfl), ⟨by decide +kernel, by decide +kernel, by decide +kernel⟩, by decide⟩
theorem ms_X10_sleptIn : Cond.instanceMethod yX10_sleptIn ∈ mm_T ∧ Cond.selects (mm_C 10).1 yX10_sleptIn yX10_sleptIn ∈ mm_T := ⟨(tw6 194 rfl rfl), (pw5 12 rfl rfl)⟩
theorem mc_X10_soughtBy : Cond.initialized yX10_soughtBy.cls ∈ mm_T ∧ Cond.code yX10_soughtBy cX10_soughtBy 2 (some .int) ∈ mm_T ∧ (yX10_soughtBy.cls ≠ "java/lang/invoke/MethodHandle" ∧ yX10_soughtBy.cls ≠ "java/lang/invoke/VarHandle" ∧ (parseMethodDescriptor yX10_soughtBy.desc).map (fun d => d.parameters.length) = some 1) ∧ 2 ≤ 80 := ⟨(tw1 12 rfl rfl), (tw6 42 rfl rfl), ⟨by decide +kernel, by decide +kernel, by decide +kernel⟩, by decide⟩
theorem ms_X10_soughtBy : Cond.instanceMethod yX10_soughtBy ∈ mm_T ∧ Cond.selects (mm_C 10).1 yX10_soughtBy yX10_soughtBy ∈ mm_T := ⟨(tw6 41 rfl rfl), (pw4 6 rfl rfl)⟩
theorem mc_X10_soughtOnes : Cond.initialized yX10_soughtOnes.cls ∈ mm_T ∧ Cond.code yX10_soughtOnes cX10_soughtOnes 3 (some .int) ∈ mm_T ∧ (yX10_soughtOnes.cls ≠ "java/lang/invoke/MethodHandle" ∧ yX10_soughtOnes.cls ≠ "java/lang/invoke/VarHandle" ∧ (parseMethodDescriptor yX10_soughtOnes.desc).map (fun d => d.parameters.length) = some 0) ∧ 3 ≤ 80 := ⟨(tw1 12 rfl rfl), (tw6 38 rfl rfl), ⟨by decide +kernel, by decide +kernel, by decide +kernel⟩, by decide⟩
theorem ms_X10_soughtOnes : Cond.instanceMethod yX10_soughtOnes ∈ mm_T ∧ Cond.selects (mm_C 10).1 yX10_soughtOnes yX10_soughtOnes ∈ mm_T := ⟨(tw6 37 rfl rfl), (pw4 5 rfl rfl)⟩
theorem mc_X10_spot : Cond.initialized yX10_spot.cls ∈ mm_T ∧ Cond.code yX10_spot cX10_spot 2 (some .int) ∈ mm_T ∧ (yX10_spot.cls ≠ "java/lang/invoke/MethodHandle" ∧ yX10_spot.cls ≠ "java/lang/invoke/VarHandle" ∧ (parseMethodDescriptor yX10_spot.desc).map (fun d => d.parameters.length) = some 2) ∧ 2 ≤ 80 := ⟨(tw1 12 rfl rfl), (tw7 7 rfl rfl), ⟨by decide +kernel, by decide +kernel, by decide +kernel⟩, by decide⟩
theorem ms_X10_spot : Cond.static yX10_spot ∈ mm_T := (tw7 6 rfl rfl)
theorem mc_X10_strength : Cond.initialized yX10_strength.cls ∈ mm_T ∧ Cond.code yX10_strength cX10_strength 1 (some .int) ∈ mm_T ∧ (yX10_strength.cls ≠ "java/lang/invoke/MethodHandle" ∧ yX10_strength.cls ≠ "java/lang/invoke/VarHandle" ∧ (parseMethodDescriptor yX10_strength.desc).map (fun d => d.parameters.length) = some 1) ∧ 1 ≤ 80 := ⟨(tw1 12 rfl rfl), (tw5 211 rfl rfl), ⟨by decide +kernel, by decide +kernel, by decide +kernel⟩, by decide⟩
theorem ms_X10_strength : Cond.static yX10_strength ∈ mm_T := (tw5 210 rfl rfl)
theorem mc_X10_sum : Cond.initialized yX10_sum.cls ∈ mm_T ∧ Cond.code yX10_sum cX10_sum 2 (some .boolean) ∈ mm_T ∧ (yX10_sum.cls ≠ "java/lang/invoke/MethodHandle" ∧ yX10_sum.cls ≠ "java/lang/invoke/VarHandle" ∧ (parseMethodDescriptor yX10_sum.desc).map (fun d => d.parameters.length) = some 0) ∧ 2 ≤ 80 := ⟨(tw1 12 rfl rfl), (tw5 146 rfl rfl), ⟨by decide +kernel, by decide +kernel, by decide +kernel⟩, by decide⟩
theorem ms_X10_sum : Cond.instanceMethod yX10_sum ∈ mm_T ∧ Cond.selects (mm_C 10).1 yX10_sum yX10_sum ∈ mm_T := ⟨(tw5 145 rfl rfl), (pw2 15 rfl rfl)⟩
theorem mc_X10_sumOf : Cond.initialized yX10_sumOf.cls ∈ mm_T ∧ Cond.code yX10_sumOf cX10_sumOf 3 (some .long) ∈ mm_T ∧ (yX10_sumOf.cls ≠ "java/lang/invoke/MethodHandle" ∧ yX10_sumOf.cls ≠ "java/lang/invoke/VarHandle" ∧ (parseMethodDescriptor yX10_sumOf.desc).map (fun d => d.parameters.length) = some 2) ∧ 3 ≤ 80 := ⟨(tw1 12 rfl rfl), (tw6 65 rfl rfl), ⟨by decide +kernel, by decide +kernel, by decide +kernel⟩, by decide⟩
theorem ms_X10_sumOf : Cond.instanceMethod yX10_sumOf ∈ mm_T ∧ Cond.selects (mm_C 10).1 yX10_sumOf yX10_sumOf ∈ mm_T := ⟨(tw6 64 rfl rfl), (pw4 11 rfl rfl)⟩
theorem mc_X10_summedBy : Cond.initialized yX10_summedBy.cls ∈ mm_T ∧ Cond.code yX10_summedBy cX10_summedBy 4 (some .long) ∈ mm_T ∧ (yX10_summedBy.cls ≠ "java/lang/invoke/MethodHandle" ∧ yX10_summedBy.cls ≠ "java/lang/invoke/VarHandle" ∧ (parseMethodDescriptor yX10_summedBy.desc).map (fun d => d.parameters.length) = some 1) ∧ 4 ≤ 80 := ⟨(tw1 12 rfl rfl), (tw6 84 rfl rfl), ⟨by decide +kernel, by decide +kernel, by decide +kernel⟩, by decide⟩
theorem ms_X10_summedBy : Cond.instanceMethod yX10_summedBy ∈ mm_T ∧ Cond.selects (mm_C 10).1 yX10_summedBy yX10_summedBy ∈ mm_T := ⟨(tw6 83 rfl rfl), (pw4 15 rfl rfl)⟩
theorem mc_X10_takesWord : Cond.initialized yX10_takesWord.cls ∈ mm_T ∧ Cond.code yX10_takesWord cX10_takesWord 3 (some .boolean) ∈ mm_T ∧ (yX10_takesWord.cls ≠ "java/lang/invoke/MethodHandle" ∧ yX10_takesWord.cls ≠ "java/lang/invoke/VarHandle" ∧ (parseMethodDescriptor yX10_takesWord.desc).map (fun d => d.parameters.length) = some 1) ∧ 3 ≤ 80 := ⟨(tw1 12 rfl rfl), (tw5 183 rfl rfl), ⟨by decide +kernel, by decide +kernel, by decide +kernel⟩, by decide⟩
theorem ms_X10_takesWord : Cond.instanceMethod yX10_takesWord ∈ mm_T ∧ Cond.selects (mm_C 10).1 yX10_takesWord yX10_takesWord ∈ mm_T := ⟨(tw5 182 rfl rfl), (pw3 5 rfl rfl)⟩
theorem mc_X10_term : Cond.initialized yX10_term.cls ∈ mm_T ∧ Cond.code yX10_term cX10_term 2 (some .boolean) ∈ mm_T ∧ (yX10_term.cls ≠ "java/lang/invoke/MethodHandle" ∧ yX10_term.cls ≠ "java/lang/invoke/VarHandle" ∧ (parseMethodDescriptor yX10_term.desc).map (fun d => d.parameters.length) = some 0) ∧ 2 ≤ 80 := ⟨(tw1 12 rfl rfl), (tw5 150 rfl rfl), ⟨by decide +kernel, by decide +kernel, by decide +kernel⟩, by decide⟩
theorem ms_X10_term : Cond.instanceMethod yX10_term ∈ mm_T ∧ Cond.selects (mm_C 10).1 yX10_term yX10_term ∈ mm_T := ⟨(tw5 149 rfl rfl), (pw3 0 rfl rfl)⟩
theorem mc_X10_tested : Cond.initialized yX10_tested.cls ∈ mm_T ∧ Cond.code yX10_tested cX10_tested 3 (some .boolean) ∈ mm_T ∧ (yX10_tested.cls ≠ "java/lang/invoke/MethodHandle" ∧ yX10_tested.cls ≠ "java/lang/invoke/VarHandle" ∧ (parseMethodDescriptor yX10_tested.desc).map (fun d => d.parameters.length) = some 0) ∧ 3 ≤ 80 := ⟨(tw1 12 rfl rfl), (tw5 187 rfl rfl), ⟨by decide +kernel, by decide +kernel, by decide +kernel⟩, by decide⟩
theorem ms_X10_tested : Cond.instanceMethod yX10_tested ∈ mm_T ∧ Cond.selects (mm_C 10).1 yX10_tested yX10_tested ∈ mm_T := ⟨(tw5 186 rfl rfl), (pw3 6 rfl rfl)⟩
theorem mc_X10_tiredAll : Cond.initialized yX10_tiredAll.cls ∈ mm_T ∧ Cond.code yX10_tiredAll cX10_tiredAll 3 (some .int) ∈ mm_T ∧ (yX10_tiredAll.cls ≠ "java/lang/invoke/MethodHandle" ∧ yX10_tiredAll.cls ≠ "java/lang/invoke/VarHandle" ∧ (parseMethodDescriptor yX10_tiredAll.desc).map (fun d => d.parameters.length) = some 0) ∧ 3 ≤ 80 := ⟨(tw1 12 rfl rfl), (tw7 40 rfl rfl), ⟨by decide +kernel, by decide +kernel, by decide +kernel⟩, by decide⟩
theorem ms_X10_tiredAll : Cond.instanceMethod yX10_tiredAll ∈ mm_T ∧ Cond.selects (mm_C 10).1 yX10_tiredAll yX10_tiredAll ∈ mm_T := ⟨(tw7 39 rfl rfl), (pw6 5 rfl rfl)⟩
theorem mc_X10_tiredOf : Cond.initialized yX10_tiredOf.cls ∈ mm_T ∧ Cond.code yX10_tiredOf cX10_tiredOf 2 (some .int) ∈ mm_T ∧ (yX10_tiredOf.cls ≠ "java/lang/invoke/MethodHandle" ∧ yX10_tiredOf.cls ≠ "java/lang/invoke/VarHandle" ∧ (parseMethodDescriptor yX10_tiredOf.desc).map (fun d => d.parameters.length) = some 1) ∧ 2 ≤ 80 := ⟨(tw1 12 rfl rfl), (tw6 69 rfl rfl), ⟨by decide +kernel, by decide +kernel, by decide +kernel⟩, by decide⟩
theorem ms_X10_tiredOf : Cond.instanceMethod yX10_tiredOf ∈ mm_T ∧ Cond.selects (mm_C 10).1 yX10_tiredOf yX10_tiredOf ∈ mm_T := ⟨(tw6 68 rfl rfl), (pw4 12 rfl rfl)⟩
theorem mc_X10_value : Cond.initialized yX10_value.cls ∈ mm_T ∧ Cond.code yX10_value cX10_value 3 (some .boolean) ∈ mm_T ∧ (yX10_value.cls ≠ "java/lang/invoke/MethodHandle" ∧ yX10_value.cls ≠ "java/lang/invoke/VarHandle" ∧ (parseMethodDescriptor yX10_value.desc).map (fun d => d.parameters.length) = some 0) ∧ 3 ≤ 80 := ⟨(tw1 12 rfl rfl), (tw5 154 rfl rfl), ⟨by decide +kernel, by decide +kernel, by decide +kernel⟩, by decide⟩
theorem ms_X10_value : Cond.instanceMethod yX10_value ∈ mm_T ∧ Cond.selects (mm_C 10).1 yX10_value yX10_value ∈ mm_T := ⟨(tw5 153 rfl rfl), (pw3 1 rfl rfl)⟩
theorem mc_X10_weighsRow : Cond.initialized yX10_weighsRow.cls ∈ mm_T ∧ Cond.code yX10_weighsRow cX10_weighsRow 4 none ∈ mm_T ∧ (yX10_weighsRow.cls ≠ "java/lang/invoke/MethodHandle" ∧ yX10_weighsRow.cls ≠ "java/lang/invoke/VarHandle" ∧ (parseMethodDescriptor yX10_weighsRow.desc).map (fun d => d.parameters.length) = some 0) ∧ 4 ≤ 80 := ⟨(tw1 12 rfl rfl), (tw6 173 rfl rfl), ⟨by decide +kernel, by decide +kernel, by decide +kernel⟩, by decide⟩
theorem ms_X10_weighsRow : Cond.instanceMethod yX10_weighsRow ∈ mm_T ∧ Cond.selects (mm_C 10).1 yX10_weighsRow yX10_weighsRow ∈ mm_T := ⟨(tw6 172 rfl rfl), (pw5 10 rfl rfl)⟩
theorem mc_X10_wordHere : Cond.initialized yX10_wordHere.cls ∈ mm_T ∧ Cond.code yX10_wordHere cX10_wordHere 1 (some .int) ∈ mm_T ∧ (yX10_wordHere.cls ≠ "java/lang/invoke/MethodHandle" ∧ yX10_wordHere.cls ≠ "java/lang/invoke/VarHandle" ∧ (parseMethodDescriptor yX10_wordHere.desc).map (fun d => d.parameters.length) = some 0) ∧ 1 ≤ 80 := ⟨(tw1 12 rfl rfl), (tw5 167 rfl rfl), ⟨by decide +kernel, by decide +kernel, by decide +kernel⟩, by decide⟩
theorem ms_X10_wordHere : Cond.instanceMethod yX10_wordHere ∈ mm_T ∧ Cond.selects (mm_C 10).1 yX10_wordHere yX10_wordHere ∈ mm_T := ⟨(tw5 166 rfl rfl), (pw3 4 rfl rfl)⟩
theorem mc_X1_addLodger : Cond.initialized yX1_addLodger.cls ∈ mm_T ∧ Cond.code yX1_addLodger cX1_addLodger 3 none ∈ mm_T ∧ (yX1_addLodger.cls ≠ "java/lang/invoke/MethodHandle" ∧ yX1_addLodger.cls ≠ "java/lang/invoke/VarHandle" ∧ (parseMethodDescriptor yX1_addLodger.desc).map (fun d => d.parameters.length) = some 2) ∧ 3 ≤ 80 := ⟨(tw1 4 rfl rfl), (tw3 15 rfl rfl), ⟨by decide +kernel, by decide +kernel, by decide +kernel⟩, by decide⟩
theorem ms_X1_addLodger : Cond.instanceMethod yX1_addLodger ∈ mm_T ∧ Cond.selects (mm_C 1).1 yX1_addLodger yX1_addLodger ∈ mm_T := ⟨(tw3 13 rfl rfl), (tw3 14 rfl rfl)⟩
theorem mc_X1_countsAt : Cond.initialized yX1_countsAt.cls ∈ mm_T ∧ Cond.code yX1_countsAt cX1_countsAt 2 (some .boolean) ∈ mm_T ∧ (yX1_countsAt.cls ≠ "java/lang/invoke/MethodHandle" ∧ yX1_countsAt.cls ≠ "java/lang/invoke/VarHandle" ∧ (parseMethodDescriptor yX1_countsAt.desc).map (fun d => d.parameters.length) = some 1) ∧ 2 ≤ 80 := ⟨(tw1 4 rfl rfl), (tw3 104 rfl rfl), ⟨by decide +kernel, by decide +kernel, by decide +kernel⟩, by decide⟩
theorem ms_X1_countsAt : Cond.instanceMethod yX1_countsAt ∈ mm_T ∧ Cond.selects (mm_C 1).1 yX1_countsAt yX1_countsAt ∈ mm_T := ⟨(tw3 102 rfl rfl), (tw3 103 rfl rfl)⟩
theorem mc_X1_dearness : Cond.initialized yX1_dearness.cls ∈ mm_T ∧ Cond.code yX1_dearness cX1_dearness 4 (some .int) ∈ mm_T ∧ (yX1_dearness.cls ≠ "java/lang/invoke/MethodHandle" ∧ yX1_dearness.cls ≠ "java/lang/invoke/VarHandle" ∧ (parseMethodDescriptor yX1_dearness.desc).map (fun d => d.parameters.length) = some 2) ∧ 4 ≤ 80 := ⟨(tw1 4 rfl rfl), (tw3 96 rfl rfl), ⟨by decide +kernel, by decide +kernel, by decide +kernel⟩, by decide⟩
theorem ms_X1_dearness : Cond.instanceMethod yX1_dearness ∈ mm_T ∧ Cond.selects (mm_C 1).1 yX1_dearness yX1_dearness ∈ mm_T := ⟨(tw3 94 rfl rfl), (tw3 95 rfl rfl)⟩
theorem mc_X1_setDearness : Cond.initialized yX1_setDearness.cls ∈ mm_T ∧ Cond.code yX1_setDearness cX1_setDearness 5 none ∈ mm_T ∧ (yX1_setDearness.cls ≠ "java/lang/invoke/MethodHandle" ∧ yX1_setDearness.cls ≠ "java/lang/invoke/VarHandle" ∧ (parseMethodDescriptor yX1_setDearness.desc).map (fun d => d.parameters.length) = some 3) ∧ 5 ≤ 80 := ⟨(tw1 4 rfl rfl), (tw3 19 rfl rfl), ⟨by decide +kernel, by decide +kernel, by decide +kernel⟩, by decide⟩
theorem ms_X1_setDearness : Cond.instanceMethod yX1_setDearness ∈ mm_T ∧ Cond.selects (mm_C 1).1 yX1_setDearness yX1_setDearness ∈ mm_T := ⟨(tw3 17 rfl rfl), (tw3 18 rfl rfl)⟩
theorem mc_X1_take : Cond.initialized yX1_take.cls ∈ mm_T ∧ Cond.code yX1_take cX1_take 2 none ∈ mm_T ∧ (yX1_take.cls ≠ "java/lang/invoke/MethodHandle" ∧ yX1_take.cls ≠ "java/lang/invoke/VarHandle" ∧ (parseMethodDescriptor yX1_take.desc).map (fun d => d.parameters.length) = some 1) ∧ 2 ≤ 80 := ⟨(tw1 4 rfl rfl), (tw3 27 rfl rfl), ⟨by decide +kernel, by decide +kernel, by decide +kernel⟩, by decide⟩
theorem ms_X1_take : Cond.instanceMethod yX1_take ∈ mm_T ∧ Cond.selects (mm_C 1).1 yX1_take yX1_take ∈ mm_T := ⟨(tw3 25 rfl rfl), (tw3 26 rfl rfl)⟩
theorem mc_X2_begin : Cond.initialized yX2_begin.cls ∈ mm_T ∧ Cond.code yX2_begin cX2_begin 2 none ∈ mm_T ∧ (yX2_begin.cls ≠ "java/lang/invoke/MethodHandle" ∧ yX2_begin.cls ≠ "java/lang/invoke/VarHandle" ∧ (parseMethodDescriptor yX2_begin.desc).map (fun d => d.parameters.length) = some 1) ∧ 2 ≤ 80 := ⟨(tw1 7 rfl rfl), (tw3 34 rfl rfl), ⟨by decide +kernel, by decide +kernel, by decide +kernel⟩, by decide⟩
theorem ms_X2_begin : Cond.instanceMethod yX2_begin ∈ mm_T ∧ Cond.selects (mm_C 2).1 yX2_begin yX2_begin ∈ mm_T := ⟨(tw3 32 rfl rfl), (tw3 33 rfl rfl)⟩
theorem mc_X2_figure : Cond.initialized yX2_figure.cls ∈ mm_T ∧ Cond.code yX2_figure cX2_figure 3 (some .int) ∈ mm_T ∧ (yX2_figure.cls ≠ "java/lang/invoke/MethodHandle" ∧ yX2_figure.cls ≠ "java/lang/invoke/VarHandle" ∧ (parseMethodDescriptor yX2_figure.desc).map (fun d => d.parameters.length) = some 0) ∧ 3 ≤ 80 := ⟨(tw1 7 rfl rfl), (tw4 45 rfl rfl), ⟨by decide +kernel, by decide +kernel, by decide +kernel⟩, by decide⟩
theorem ms_X2_figure : Cond.instanceMethod yX2_figure ∈ mm_T ∧ Cond.selects (mm_C 2).1 yX2_figure yX2_figure ∈ mm_T := ⟨(tw4 43 rfl rfl), (tw4 44 rfl rfl)⟩
theorem mc_X2_give : Cond.initialized yX2_give.cls ∈ mm_T ∧ Cond.code yX2_give cX2_give 4 none ∈ mm_T ∧ (yX2_give.cls ≠ "java/lang/invoke/MethodHandle" ∧ yX2_give.cls ≠ "java/lang/invoke/VarHandle" ∧ (parseMethodDescriptor yX2_give.desc).map (fun d => d.parameters.length) = some 3) ∧ 4 ≤ 80 := ⟨(tw1 7 rfl rfl), (tw3 193 rfl rfl), ⟨by decide +kernel, by decide +kernel, by decide +kernel⟩, by decide⟩
theorem ms_X2_give : Cond.instanceMethod yX2_give ∈ mm_T ∧ Cond.selects (mm_C 2).1 yX2_give yX2_give ∈ mm_T := ⟨(tw3 191 rfl rfl), (tw3 192 rfl rfl)⟩
theorem mc_X2_isIn : Cond.initialized yX2_isIn.cls ∈ mm_T ∧ Cond.code yX2_isIn cX2_isIn 2 (some .boolean) ∈ mm_T ∧ (yX2_isIn.cls ≠ "java/lang/invoke/MethodHandle" ∧ yX2_isIn.cls ≠ "java/lang/invoke/VarHandle" ∧ (parseMethodDescriptor yX2_isIn.desc).map (fun d => d.parameters.length) = some 1) ∧ 2 ≤ 80 := ⟨(tw1 7 rfl rfl), (tw3 84 rfl rfl), ⟨by decide +kernel, by decide +kernel, by decide +kernel⟩, by decide⟩
theorem ms_X2_isIn : Cond.instanceMethod yX2_isIn ∈ mm_T ∧ Cond.selects (mm_C 2).1 yX2_isIn yX2_isIn ∈ mm_T := ⟨(tw3 82 rfl rfl), (tw3 83 rfl rfl)⟩
theorem mc_X2_sought : Cond.initialized yX2_sought.cls ∈ mm_T ∧ Cond.code yX2_sought cX2_sought 3 (some .int) ∈ mm_T ∧ (yX2_sought.cls ≠ "java/lang/invoke/MethodHandle" ∧ yX2_sought.cls ≠ "java/lang/invoke/VarHandle" ∧ (parseMethodDescriptor yX2_sought.desc).map (fun d => d.parameters.length) = some 0) ∧ 3 ≤ 80 := ⟨(tw1 7 rfl rfl), (tw3 144 rfl rfl), ⟨by decide +kernel, by decide +kernel, by decide +kernel⟩, by decide⟩
theorem ms_X2_sought : Cond.instanceMethod yX2_sought ∈ mm_T ∧ Cond.selects (mm_C 2).1 yX2_sought yX2_sought ∈ mm_T := ⟨(tw3 142 rfl rfl), (tw3 143 rfl rfl)⟩
theorem mc_X2_take : Cond.initialized yX2_take.cls ∈ mm_T ∧ Cond.code yX2_take cX2_take 2 none ∈ mm_T ∧ (yX2_take.cls ≠ "java/lang/invoke/MethodHandle" ∧ yX2_take.cls ≠ "java/lang/invoke/VarHandle" ∧ (parseMethodDescriptor yX2_take.desc).map (fun d => d.parameters.length) = some 1) ∧ 2 ≤ 80 := ⟨(tw1 7 rfl rfl), (tw3 119 rfl rfl), ⟨by decide +kernel, by decide +kernel, by decide +kernel⟩, by decide⟩
theorem ms_X2_take : Cond.instanceMethod yX2_take ∈ mm_T ∧ Cond.selects (mm_C 2).1 yX2_take yX2_take ∈ mm_T := ⟨(tw3 117 rfl rfl), (tw3 118 rfl rfl)⟩
theorem mc_X2_tireBy : Cond.initialized yX2_tireBy.cls ∈ mm_T ∧ Cond.code yX2_tireBy cX2_tireBy 3 none ∈ mm_T ∧ (yX2_tireBy.cls ≠ "java/lang/invoke/MethodHandle" ∧ yX2_tireBy.cls ≠ "java/lang/invoke/VarHandle" ∧ (parseMethodDescriptor yX2_tireBy.desc).map (fun d => d.parameters.length) = some 2) ∧ 3 ≤ 80 := ⟨(tw1 7 rfl rfl), (tw3 180 rfl rfl), ⟨by decide +kernel, by decide +kernel, by decide +kernel⟩, by decide⟩
theorem ms_X2_tireBy : Cond.instanceMethod yX2_tireBy ∈ mm_T ∧ Cond.selects (mm_C 2).1 yX2_tireBy yX2_tireBy ∈ mm_T := ⟨(tw3 178 rfl rfl), (tw3 179 rfl rfl)⟩
theorem mc_X3_add : Cond.initialized yX3_add.cls ∈ mm_T ∧ Cond.code yX3_add cX3_add 4 none ∈ mm_T ∧ (yX3_add.cls ≠ "java/lang/invoke/MethodHandle" ∧ yX3_add.cls ≠ "java/lang/invoke/VarHandle" ∧ (parseMethodDescriptor yX3_add.desc).map (fun d => d.parameters.length) = some 3) ∧ 4 ≤ 80 := ⟨(tw1 9 rfl rfl), (tw4 76 rfl rfl), ⟨by decide +kernel, by decide +kernel, by decide +kernel⟩, by decide⟩
theorem ms_X3_add : Cond.instanceMethod yX3_add ∈ mm_T ∧ Cond.selects (mm_C 3).1 yX3_add yX3_add ∈ mm_T := ⟨(tw4 74 rfl rfl), (tw4 75 rfl rfl)⟩
theorem mc_X3_areSo : Cond.initialized yX3_areSo.cls ∈ mm_T ∧ Cond.code yX3_areSo cX3_areSo 5 (some .boolean) ∈ mm_T ∧ (yX3_areSo.cls ≠ "java/lang/invoke/MethodHandle" ∧ yX3_areSo.cls ≠ "java/lang/invoke/VarHandle" ∧ (parseMethodDescriptor yX3_areSo.desc).map (fun d => d.parameters.length) = some 2) ∧ 5 ≤ 80 := ⟨(tw1 9 rfl rfl), (tw4 94 rfl rfl), ⟨by decide +kernel, by decide +kernel, by decide +kernel⟩, by decide⟩
theorem ms_X3_areSo : Cond.instanceMethod yX3_areSo ∈ mm_T ∧ Cond.selects (mm_C 3).1 yX3_areSo yX3_areSo ∈ mm_T := ⟨(tw4 92 rfl rfl), (tw4 93 rfl rfl)⟩
theorem mc_X3_take : Cond.initialized yX3_take.cls ∈ mm_T ∧ Cond.code yX3_take cX3_take 2 none ∈ mm_T ∧ (yX3_take.cls ≠ "java/lang/invoke/MethodHandle" ∧ yX3_take.cls ≠ "java/lang/invoke/VarHandle" ∧ (parseMethodDescriptor yX3_take.desc).map (fun d => d.parameters.length) = some 1) ∧ 2 ≤ 80 := ⟨(tw1 9 rfl rfl), (tw4 140 rfl rfl), ⟨by decide +kernel, by decide +kernel, by decide +kernel⟩, by decide⟩
theorem ms_X3_take : Cond.instanceMethod yX3_take ∈ mm_T ∧ Cond.selects (mm_C 3).1 yX3_take yX3_take ∈ mm_T := ⟨(tw4 138 rfl rfl), (tw4 139 rfl rfl)⟩
theorem mc_X4_countPart : Cond.initialized yX4_countPart.cls ∈ mm_T ∧ Cond.code yX4_countPart cX4_countPart 1 none ∈ mm_T ∧ (yX4_countPart.cls ≠ "java/lang/invoke/MethodHandle" ∧ yX4_countPart.cls ≠ "java/lang/invoke/VarHandle" ∧ (parseMethodDescriptor yX4_countPart.desc).map (fun d => d.parameters.length) = some 0) ∧ 1 ≤ 80 := ⟨(tw1 3 rfl rfl), (tw3 59 rfl rfl), ⟨by decide +kernel, by decide +kernel, by decide +kernel⟩, by decide⟩
theorem ms_X4_countPart : Cond.instanceMethod yX4_countPart ∈ mm_T ∧ Cond.selects (mm_C 4).1 yX4_countPart yX4_countPart ∈ mm_T := ⟨(tw3 57 rfl rfl), (tw3 58 rfl rfl)⟩
theorem mc_X4_fail : Cond.initialized yX4_fail.cls ∈ mm_T ∧ Cond.code yX4_fail cX4_fail 2 none ∈ mm_T ∧ (yX4_fail.cls ≠ "java/lang/invoke/MethodHandle" ∧ yX4_fail.cls ≠ "java/lang/invoke/VarHandle" ∧ (parseMethodDescriptor yX4_fail.desc).map (fun d => d.parameters.length) = some 1) ∧ 2 ≤ 80 := ⟨(tw1 3 rfl rfl), (tw3 7 rfl rfl), ⟨by decide +kernel, by decide +kernel, by decide +kernel⟩, by decide⟩
theorem ms_X4_fail : Cond.instanceMethod yX4_fail ∈ mm_T ∧ Cond.selects (mm_C 4).1 yX4_fail yX4_fail ∈ mm_T := ⟨(tw3 5 rfl rfl), (tw3 6 rfl rfl)⟩
theorem mc_X4_isDigit : Cond.initialized yX4_isDigit.cls ∈ mm_T ∧ Cond.code yX4_isDigit cX4_isDigit 2 (some .boolean) ∈ mm_T ∧ (yX4_isDigit.cls ≠ "java/lang/invoke/MethodHandle" ∧ yX4_isDigit.cls ≠ "java/lang/invoke/VarHandle" ∧ (parseMethodDescriptor yX4_isDigit.desc).map (fun d => d.parameters.length) = some 1) ∧ 2 ≤ 80 := ⟨(tw1 3 rfl rfl), (tw2 216 rfl rfl), ⟨by decide +kernel, by decide +kernel, by decide +kernel⟩, by decide⟩
theorem ms_X4_isDigit : Cond.instanceMethod yX4_isDigit ∈ mm_T ∧ Cond.selects (mm_C 4).1 yX4_isDigit yX4_isDigit ∈ mm_T := ⟨(tw2 214 rfl rfl), (tw2 215 rfl rfl)⟩
theorem mc_X4_isLetter : Cond.initialized yX4_isLetter.cls ∈ mm_T ∧ Cond.code yX4_isLetter cX4_isLetter 2 (some .boolean) ∈ mm_T ∧ (yX4_isLetter.cls ≠ "java/lang/invoke/MethodHandle" ∧ yX4_isLetter.cls ≠ "java/lang/invoke/VarHandle" ∧ (parseMethodDescriptor yX4_isLetter.desc).map (fun d => d.parameters.length) = some 1) ∧ 2 ≤ 80 := ⟨(tw1 3 rfl rfl), (tw2 151 rfl rfl), ⟨by decide +kernel, by decide +kernel, by decide +kernel⟩, by decide⟩
theorem ms_X4_isLetter : Cond.instanceMethod yX4_isLetter ∈ mm_T ∧ Cond.selects (mm_C 4).1 yX4_isLetter yX4_isLetter ∈ mm_T := ⟨(tw2 149 rfl rfl), (tw2 150 rfl rfl)⟩
theorem mc_X4_isSign : Cond.initialized yX4_isSign.cls ∈ mm_T ∧ Cond.code yX4_isSign cX4_isSign 2 (some .boolean) ∈ mm_T ∧ (yX4_isSign.cls ≠ "java/lang/invoke/MethodHandle" ∧ yX4_isSign.cls ≠ "java/lang/invoke/VarHandle" ∧ (parseMethodDescriptor yX4_isSign.desc).map (fun d => d.parameters.length) = some 1) ∧ 2 ≤ 80 := ⟨(tw1 3 rfl rfl), (tw3 23 rfl rfl), ⟨by decide +kernel, by decide +kernel, by decide +kernel⟩, by decide⟩
theorem ms_X4_isSign : Cond.instanceMethod yX4_isSign ∈ mm_T ∧ Cond.selects (mm_C 4).1 yX4_isSign yX4_isSign ∈ mm_T := ⟨(tw3 21 rfl rfl), (tw3 22 rfl rfl)⟩
theorem mc_X4_isWord : Cond.initialized yX4_isWord.cls ∈ mm_T ∧ Cond.code yX4_isWord cX4_isWord 2 (some .boolean) ∈ mm_T ∧ (yX4_isWord.cls ≠ "java/lang/invoke/MethodHandle" ∧ yX4_isWord.cls ≠ "java/lang/invoke/VarHandle" ∧ (parseMethodDescriptor yX4_isWord.desc).map (fun d => d.parameters.length) = some 1) ∧ 2 ≤ 80 := ⟨(tw1 3 rfl rfl), (tw3 3 rfl rfl), ⟨by decide +kernel, by decide +kernel, by decide +kernel⟩, by decide⟩
theorem ms_X4_isWord : Cond.instanceMethod yX4_isWord ∈ mm_T ∧ Cond.selects (mm_C 4).1 yX4_isWord yX4_isWord ∈ mm_T := ⟨(tw3 1 rfl rfl), (tw3 2 rfl rfl)⟩
theorem mc_X4_readFact : Cond.initialized yX4_readFact.cls ∈ mm_T ∧ Cond.code yX4_readFact cX4_readFact 6 none ∈ mm_T ∧ (yX4_readFact.cls ≠ "java/lang/invoke/MethodHandle" ∧ yX4_readFact.cls ≠ "java/lang/invoke/VarHandle" ∧ (parseMethodDescriptor yX4_readFact.desc).map (fun d => d.parameters.length) = some 2) ∧ 6 ≤ 80 := ⟨(tw1 3 rfl rfl), (tw3 68 rfl rfl), ⟨by decide +kernel, by decide +kernel, by decide +kernel⟩, by decide⟩
theorem ms_X4_readFact : Cond.instanceMethod yX4_readFact ∈ mm_T ∧ Cond.selects (mm_C 4).1 yX4_readFact yX4_readFact ∈ mm_T := ⟨(tw3 67 rfl rfl), (pw1 1 rfl rfl)⟩
theorem mc_X4_readNumber : Cond.initialized yX4_readNumber.cls ∈ mm_T ∧ Cond.code yX4_readNumber cX4_readNumber 5 (some .int) ∈ mm_T ∧ (yX4_readNumber.cls ≠ "java/lang/invoke/MethodHandle" ∧ yX4_readNumber.cls ≠ "java/lang/invoke/VarHandle" ∧ (parseMethodDescriptor yX4_readNumber.desc).map (fun d => d.parameters.length) = some 3) ∧ 5 ≤ 80 := ⟨(tw1 3 rfl rfl), (tw3 11 rfl rfl), ⟨by decide +kernel, by decide +kernel, by decide +kernel⟩, by decide⟩
theorem ms_X4_readNumber : Cond.instanceMethod yX4_readNumber ∈ mm_T ∧ Cond.selects (mm_C 4).1 yX4_readNumber yX4_readNumber ∈ mm_T := ⟨(tw3 9 rfl rfl), (tw3 10 rfl rfl)⟩
theorem mc_X4_readSum : Cond.initialized yX4_readSum.cls ∈ mm_T ∧ Cond.code yX4_readSum cX4_readSum 5 none ∈ mm_T ∧ (yX4_readSum.cls ≠ "java/lang/invoke/MethodHandle" ∧ yX4_readSum.cls ≠ "java/lang/invoke/VarHandle" ∧ (parseMethodDescriptor yX4_readSum.desc).map (fun d => d.parameters.length) = some 1) ∧ 5 ≤ 80 := ⟨(tw1 3 rfl rfl), (tw3 51 rfl rfl), ⟨by decide +kernel, by decide +kernel, by decide +kernel⟩, by decide⟩
theorem ms_X4_readSum : Cond.instanceMethod yX4_readSum ∈ mm_T ∧ Cond.selects (mm_C 4).1 yX4_readSum yX4_readSum ∈ mm_T := ⟨(tw3 49 rfl rfl), (tw3 50 rfl rfl)⟩
theorem mc_X4_readTest : Cond.initialized yX4_readTest.cls ∈ mm_T ∧ Cond.code yX4_readTest cX4_readTest 6 none ∈ mm_T ∧ (yX4_readTest.cls ≠ "java/lang/invoke/MethodHandle" ∧ yX4_readTest.cls ≠ "java/lang/invoke/VarHandle" ∧ (parseMethodDescriptor yX4_readTest.desc).map (fun d => d.parameters.length) = some 2) ∧ 6 ≤ 80 := ⟨(tw1 3 rfl rfl), (tw3 64 rfl rfl), ⟨by decide +kernel, by decide +kernel, by decide +kernel⟩, by decide⟩
theorem ms_X4_readTest : Cond.instanceMethod yX4_readTest ∈ mm_T ∧ Cond.selects (mm_C 4).1 yX4_readTest yX4_readTest ∈ mm_T := ⟨(tw3 63 rfl rfl), (pw1 0 rfl rfl)⟩
theorem mc_X4_readValue : Cond.initialized yX4_readValue.cls ∈ mm_T ∧ Cond.code yX4_readValue cX4_readValue 3 none ∈ mm_T ∧ (yX4_readValue.cls ≠ "java/lang/invoke/MethodHandle" ∧ yX4_readValue.cls ≠ "java/lang/invoke/VarHandle" ∧ (parseMethodDescriptor yX4_readValue.desc).map (fun d => d.parameters.length) = some 1) ∧ 3 ≤ 80 := ⟨(tw1 3 rfl rfl), (tw3 55 rfl rfl), ⟨by decide +kernel, by decide +kernel, by decide +kernel⟩, by decide⟩
theorem ms_X4_readValue : Cond.instanceMethod yX4_readValue ∈ mm_T ∧ Cond.selects (mm_C 4).1 yX4_readValue yX4_readValue ∈ mm_T := ⟨(tw3 53 rfl rfl), (tw3 54 rfl rfl)⟩
theorem mc_X4_step : Cond.initialized yX4_step.cls ∈ mm_T ∧ Cond.code yX4_step cX4_step 1 none ∈ mm_T ∧ (yX4_step.cls ≠ "java/lang/invoke/MethodHandle" ∧ yX4_step.cls ≠ "java/lang/invoke/VarHandle" ∧ (parseMethodDescriptor yX4_step.desc).map (fun d => d.parameters.length) = some 0) ∧ 1 ≤ 80 := ⟨(tw1 3 rfl rfl), (tw2 235 rfl rfl), ⟨by decide +kernel, by decide +kernel, by decide +kernel⟩, by decide⟩
theorem ms_X4_step : Cond.instanceMethod yX4_step ∈ mm_T ∧ Cond.selects (mm_C 4).1 yX4_step yX4_step ∈ mm_T := ⟨(tw2 233 rfl rfl), (tw2 234 rfl rfl)⟩
theorem mc_X5_add : Cond.initialized yX5_add.cls ∈ mm_T ∧ Cond.code yX5_add cX5_add 2 none ∈ mm_T ∧ (yX5_add.cls ≠ "java/lang/invoke/MethodHandle" ∧ yX5_add.cls ≠ "java/lang/invoke/VarHandle" ∧ (parseMethodDescriptor yX5_add.desc).map (fun d => d.parameters.length) = some 1) ∧ 2 ≤ 80 := ⟨(tw1 5 rfl rfl), (tw1 152 rfl rfl), ⟨by decide +kernel, by decide +kernel, by decide +kernel⟩, by decide⟩
theorem ms_X5_add : Cond.instanceMethod yX5_add ∈ mm_T ∧ Cond.selects (mm_C 5).1 yX5_add yX5_add ∈ mm_T := ⟨(tw1 150 rfl rfl), (tw1 151 rfl rfl)⟩
theorem mc_X6_addNumber : Cond.initialized yX6_addNumber.cls ∈ mm_T ∧ Cond.code yX6_addNumber cX6_addNumber 3 none ∈ mm_T ∧ (yX6_addNumber.cls ≠ "java/lang/invoke/MethodHandle" ∧ yX6_addNumber.cls ≠ "java/lang/invoke/VarHandle" ∧ (parseMethodDescriptor yX6_addNumber.desc).map (fun d => d.parameters.length) = some 1) ∧ 3 ≤ 80 := ⟨(tw1 2 rfl rfl), (tw2 122 rfl rfl), ⟨by decide +kernel, by decide +kernel, by decide +kernel⟩, by decide⟩
theorem ms_X6_addNumber : Cond.instanceMethod yX6_addNumber ∈ mm_T ∧ Cond.selects (mm_C 6).1 yX6_addNumber yX6_addNumber ∈ mm_T := ⟨(tw2 120 rfl rfl), (tw2 121 rfl rfl)⟩
theorem mc_X7_begin : Cond.initialized yX7_begin.cls ∈ mm_T ∧ Cond.code yX7_begin cX7_begin 3 none ∈ mm_T ∧ (yX7_begin.cls ≠ "java/lang/invoke/MethodHandle" ∧ yX7_begin.cls ≠ "java/lang/invoke/VarHandle" ∧ (parseMethodDescriptor yX7_begin.desc).map (fun d => d.parameters.length) = some 2) ∧ 3 ≤ 80 := ⟨(tw1 11 rfl rfl), (tw3 130 rfl rfl), ⟨by decide +kernel, by decide +kernel, by decide +kernel⟩, by decide⟩
theorem ms_X7_begin : Cond.instanceMethod yX7_begin ∈ mm_T ∧ Cond.selects (mm_C 7).1 yX7_begin yX7_begin ∈ mm_T := ⟨(tw3 128 rfl rfl), (tw3 129 rfl rfl)⟩
theorem mc_X7_beginAsTold : Cond.initialized yX7_beginAsTold.cls ∈ mm_T ∧ Cond.code yX7_beginAsTold cX7_beginAsTold 2 none ∈ mm_T ∧ (yX7_beginAsTold.cls ≠ "java/lang/invoke/MethodHandle" ∧ yX7_beginAsTold.cls ≠ "java/lang/invoke/VarHandle" ∧ (parseMethodDescriptor yX7_beginAsTold.desc).map (fun d => d.parameters.length) = some 1) ∧ 2 ≤ 80 := ⟨(tw1 11 rfl rfl), (tw4 88 rfl rfl), ⟨by decide +kernel, by decide +kernel, by decide +kernel⟩, by decide⟩
theorem ms_X7_beginAsTold : Cond.instanceMethod yX7_beginAsTold ∈ mm_T ∧ Cond.selects (mm_C 7).1 yX7_beginAsTold yX7_beginAsTold ∈ mm_T := ⟨(tw4 86 rfl rfl), (tw4 87 rfl rfl)⟩
theorem mc_X7_bestOther : Cond.initialized yX7_bestOther.cls ∈ mm_T ∧ Cond.code yX7_bestOther cX7_bestOther 9 (some .int) ∈ mm_T ∧ (yX7_bestOther.cls ≠ "java/lang/invoke/MethodHandle" ∧ yX7_bestOther.cls ≠ "java/lang/invoke/VarHandle" ∧ (parseMethodDescriptor yX7_bestOther.desc).map (fun d => d.parameters.length) = some 2) ∧ 9 ≤ 80 := ⟨(tw1 11 rfl rfl), (tw3 155 rfl rfl), ⟨by decide +kernel, by decide +kernel, by decide +kernel⟩, by decide⟩
theorem ms_X7_bestOther : Cond.instanceMethod yX7_bestOther ∈ mm_T ∧ Cond.selects (mm_C 7).1 yX7_bestOther yX7_bestOther ∈ mm_T := ⟨(tw3 153 rfl rfl), (tw3 154 rfl rfl)⟩
theorem mc_X7_drawStranger : Cond.initialized yX7_drawStranger.cls ∈ mm_T ∧ Cond.code yX7_drawStranger cX7_drawStranger 2 none ∈ mm_T ∧ (yX7_drawStranger.cls ≠ "java/lang/invoke/MethodHandle" ∧ yX7_drawStranger.cls ≠ "java/lang/invoke/VarHandle" ∧ (parseMethodDescriptor yX7_drawStranger.desc).map (fun d => d.parameters.length) = some 1) ∧ 2 ≤ 80 := ⟨(tw1 11 rfl rfl), (tw4 118 rfl rfl), ⟨by decide +kernel, by decide +kernel, by decide +kernel⟩, by decide⟩
theorem ms_X7_drawStranger : Cond.instanceMethod yX7_drawStranger ∈ mm_T ∧ Cond.selects (mm_C 7).1 yX7_drawStranger yX7_drawStranger ∈ mm_T := ⟨(tw4 116 rfl rfl), (tw4 117 rfl rfl)⟩
theorem mc_X7_firstSeeker : Cond.initialized yX7_firstSeeker.cls ∈ mm_T ∧ Cond.code yX7_firstSeeker cX7_firstSeeker 3 (some .int) ∈ mm_T ∧ (yX7_firstSeeker.cls ≠ "java/lang/invoke/MethodHandle" ∧ yX7_firstSeeker.cls ≠ "java/lang/invoke/VarHandle" ∧ (parseMethodDescriptor yX7_firstSeeker.desc).map (fun d => d.parameters.length) = some 1) ∧ 3 ≤ 80 := ⟨(tw1 11 rfl rfl), (tw3 189 rfl rfl), ⟨by decide +kernel, by decide +kernel, by decide +kernel⟩, by decide⟩
theorem ms_X7_firstSeeker : Cond.instanceMethod yX7_firstSeeker ∈ mm_T ∧ Cond.selects (mm_C 7).1 yX7_firstSeeker yX7_firstSeeker ∈ mm_T := ⟨(tw3 187 rfl rfl), (tw3 188 rfl rfl)⟩
theorem mc_X7_goIn : Cond.initialized yX7_goIn.cls ∈ mm_T ∧ Cond.code yX7_goIn cX7_goIn 2 none ∈ mm_T ∧ (yX7_goIn.cls ≠ "java/lang/invoke/MethodHandle" ∧ yX7_goIn.cls ≠ "java/lang/invoke/VarHandle" ∧ (parseMethodDescriptor yX7_goIn.desc).map (fun d => d.parameters.length) = some 0) ∧ 2 ≤ 80 := ⟨(tw1 11 rfl rfl), (tw3 140 rfl rfl), ⟨by decide +kernel, by decide +kernel, by decide +kernel⟩, by decide⟩
theorem ms_X7_goIn : Cond.instanceMethod yX7_goIn ∈ mm_T ∧ Cond.selects (mm_C 7).1 yX7_goIn yX7_goIn ∈ mm_T := ⟨(tw3 138 rfl rfl), (tw3 139 rfl rfl)⟩
theorem mc_X7_joined : Cond.initialized yX7_joined.cls ∈ mm_T ∧ Cond.code yX7_joined cX7_joined 5 (some .long) ∈ mm_T ∧ (yX7_joined.cls ≠ "java/lang/invoke/MethodHandle" ∧ yX7_joined.cls ≠ "java/lang/invoke/VarHandle" ∧ (parseMethodDescriptor yX7_joined.desc).map (fun d => d.parameters.length) = some 3) ∧ 5 ≤ 80 := ⟨(tw1 11 rfl rfl), (tw3 169 rfl rfl), ⟨by decide +kernel, by decide +kernel, by decide +kernel⟩, by decide⟩
theorem ms_X7_joined : Cond.static yX7_joined ∈ mm_T := (tw3 168 rfl rfl)
theorem mc_X7_lookForOthers : Cond.initialized yX7_lookForOthers.cls ∈ mm_T ∧ Cond.code yX7_lookForOthers cX7_lookForOthers 4 none ∈ mm_T ∧ (yX7_lookForOthers.cls ≠ "java/lang/invoke/MethodHandle" ∧ yX7_lookForOthers.cls ≠ "java/lang/invoke/VarHandle" ∧ (parseMethodDescriptor yX7_lookForOthers.desc).map (fun d => d.parameters.length) = some 0) ∧ 4 ≤ 80 := ⟨(tw1 11 rfl rfl), (tw3 149 rfl rfl), ⟨by decide +kernel, by decide +kernel, by decide +kernel⟩, by decide⟩
theorem ms_X7_lookForOthers : Cond.instanceMethod yX7_lookForOthers ∈ mm_T ∧ Cond.selects (mm_C 7).1 yX7_lookForOthers yX7_lookForOthers ∈ mm_T := ⟨(tw3 147 rfl rfl), (tw3 148 rfl rfl)⟩
theorem mc_X7_nextDraw : Cond.initialized yX7_nextDraw.cls ∈ mm_T ∧ Cond.code yX7_nextDraw cX7_nextDraw 1 (some .int) ∈ mm_T ∧ (yX7_nextDraw.cls ≠ "java/lang/invoke/MethodHandle" ∧ yX7_nextDraw.cls ≠ "java/lang/invoke/VarHandle" ∧ (parseMethodDescriptor yX7_nextDraw.desc).map (fun d => d.parameters.length) = some 0) ∧ 1 ≤ 80 := ⟨(tw1 11 rfl rfl), (tw4 122 rfl rfl), ⟨by decide +kernel, by decide +kernel, by decide +kernel⟩, by decide⟩
theorem ms_X7_nextDraw : Cond.instanceMethod yX7_nextDraw ∈ mm_T ∧ Cond.selects (mm_C 7).1 yX7_nextDraw yX7_nextDraw ∈ mm_T := ⟨(tw4 120 rfl rfl), (tw4 121 rfl rfl)⟩
theorem mc_X7_passHours : Cond.initialized yX7_passHours.cls ∈ mm_T ∧ Cond.code yX7_passHours cX7_passHours 3 none ∈ mm_T ∧ (yX7_passHours.cls ≠ "java/lang/invoke/MethodHandle" ∧ yX7_passHours.cls ≠ "java/lang/invoke/VarHandle" ∧ (parseMethodDescriptor yX7_passHours.desc).map (fun d => d.parameters.length) = some 1) ∧ 3 ≤ 80 := ⟨(tw1 11 rfl rfl), (tw3 136 rfl rfl), ⟨by decide +kernel, by decide +kernel, by decide +kernel⟩, by decide⟩
theorem ms_X7_passHours : Cond.instanceMethod yX7_passHours ∈ mm_T ∧ Cond.selects (mm_C 7).1 yX7_passHours yX7_passHours ∈ mm_T := ⟨(tw3 134 rfl rfl), (tw3 135 rfl rfl)⟩
theorem mc_X7_payTheSeekers : Cond.initialized yX7_payTheSeekers.cls ∈ mm_T ∧ Cond.code yX7_payTheSeekers cX7_payTheSeekers 3 none ∈ mm_T ∧ (yX7_payTheSeekers.cls ≠ "java/lang/invoke/MethodHandle" ∧ yX7_payTheSeekers.cls ≠ "java/lang/invoke/VarHandle" ∧ (parseMethodDescriptor yX7_payTheSeekers.desc).map (fun d => d.parameters.length) = some 0) ∧ 3 ≤ 80 := ⟨(tw1 11 rfl rfl), (tw3 185 rfl rfl), ⟨by decide +kernel, by decide +kernel, by decide +kernel⟩, by decide⟩
theorem ms_X7_payTheSeekers : Cond.instanceMethod yX7_payTheSeekers ∈ mm_T ∧ Cond.selects (mm_C 7).1 yX7_payTheSeekers yX7_payTheSeekers ∈ mm_T := ⟨(tw3 183 rfl rfl), (tw3 184 rfl rfl)⟩
theorem mc_X7_sleepOrTire : Cond.initialized yX7_sleepOrTire.cls ∈ mm_T ∧ Cond.code yX7_sleepOrTire cX7_sleepOrTire 2 none ∈ mm_T ∧ (yX7_sleepOrTire.cls ≠ "java/lang/invoke/MethodHandle" ∧ yX7_sleepOrTire.cls ≠ "java/lang/invoke/VarHandle" ∧ (parseMethodDescriptor yX7_sleepOrTire.desc).map (fun d => d.parameters.length) = some 0) ∧ 2 ≤ 80 := ⟨(tw1 11 rfl rfl), (tw3 173 rfl rfl), ⟨by decide +kernel, by decide +kernel, by decide +kernel⟩, by decide⟩
theorem ms_X7_sleepOrTire : Cond.instanceMethod yX7_sleepOrTire ∈ mm_T ∧ Cond.selects (mm_C 7).1 yX7_sleepOrTire yX7_sleepOrTire ∈ mm_T := ⟨(tw3 171 rfl rfl), (tw3 172 rfl rfl)⟩
theorem mc_X7_worthByRule : Cond.initialized yX7_worthByRule.cls ∈ mm_T ∧ Cond.code yX7_worthByRule cX7_worthByRule 4 (some .long) ∈ mm_T ∧ (yX7_worthByRule.cls ≠ "java/lang/invoke/MethodHandle" ∧ yX7_worthByRule.cls ≠ "java/lang/invoke/VarHandle" ∧ (parseMethodDescriptor yX7_worthByRule.desc).map (fun d => d.parameters.length) = some 0) ∧ 4 ≤ 80 := ⟨(tw1 11 rfl rfl), (tw3 166 rfl rfl), ⟨by decide +kernel, by decide +kernel, by decide +kernel⟩, by decide⟩
theorem ms_X7_worthByRule : Cond.instanceMethod yX7_worthByRule ∈ mm_T ∧ Cond.selects (mm_C 7).1 yX7_worthByRule yX7_worthByRule ∈ mm_T := ⟨(tw3 164 rfl rfl), (tw3 165 rfl rfl)⟩
theorem mc_X8_take : Cond.initialized yX8_take.cls ∈ mm_T ∧ Cond.code yX8_take cX8_take 2 none ∈ mm_T ∧ (yX8_take.cls ≠ "java/lang/invoke/MethodHandle" ∧ yX8_take.cls ≠ "java/lang/invoke/VarHandle" ∧ (parseMethodDescriptor yX8_take.desc).map (fun d => d.parameters.length) = some 1) ∧ 2 ≤ 80 := ⟨(tw1 6 rfl rfl), (tw4 134 rfl rfl), ⟨by decide +kernel, by decide +kernel, by decide +kernel⟩, by decide⟩
theorem ms_X8_take : Cond.instanceMethod yX8_take ∈ mm_T ∧ Cond.selects (mm_C 8).1 yX8_take yX8_take ∈ mm_T := ⟨(tw4 132 rfl rfl), (tw4 133 rfl rfl)⟩
theorem mc_X9_areUnlike : Cond.initialized yX9_areUnlike.cls ∈ mm_T ∧ Cond.code yX9_areUnlike cX9_areUnlike 3 (some .boolean) ∈ mm_T ∧ (yX9_areUnlike.cls ≠ "java/lang/invoke/MethodHandle" ∧ yX9_areUnlike.cls ≠ "java/lang/invoke/VarHandle" ∧ (parseMethodDescriptor yX9_areUnlike.desc).map (fun d => d.parameters.length) = some 2) ∧ 3 ≤ 80 := ⟨(tw1 1 rfl rfl), (tw3 92 rfl rfl), ⟨by decide +kernel, by decide +kernel, by decide +kernel⟩, by decide⟩
theorem ms_X9_areUnlike : Cond.instanceMethod yX9_areUnlike ∈ mm_T ∧ Cond.selects (mm_C 9).1 yX9_areUnlike yX9_areUnlike ∈ mm_T := ⟨(tw3 91 rfl rfl), (pw1 3 rfl rfl)⟩
theorem mc_X9_everybody : Cond.initialized yX9_everybody.cls ∈ mm_T ∧ Cond.code yX9_everybody cX9_everybody 1 (some .int) ∈ mm_T ∧ (yX9_everybody.cls ≠ "java/lang/invoke/MethodHandle" ∧ yX9_everybody.cls ≠ "java/lang/invoke/VarHandle" ∧ (parseMethodDescriptor yX9_everybody.desc).map (fun d => d.parameters.length) = some 0) ∧ 1 ≤ 80 := ⟨(tw1 1 rfl rfl), (tw4 1 rfl rfl), ⟨by decide +kernel, by decide +kernel, by decide +kernel⟩, by decide⟩
theorem ms_X9_everybody : Cond.instanceMethod yX9_everybody ∈ mm_T ∧ Cond.selects (mm_C 9).1 yX9_everybody yX9_everybody ∈ mm_T := ⟨(tw4 0 rfl rfl), (pw1 5 rfl rfl)⟩
theorem mc_X9_fillRow : Cond.initialized yX9_fillRow.cls ∈ mm_T ∧ Cond.code yX9_fillRow cX9_fillRow 8 none ∈ mm_T ∧ (yX9_fillRow.cls ≠ "java/lang/invoke/MethodHandle" ∧ yX9_fillRow.cls ≠ "java/lang/invoke/VarHandle" ∧ (parseMethodDescriptor yX9_fillRow.desc).map (fun d => d.parameters.length) = some 1) ∧ 8 ≤ 80 := ⟨(tw1 1 rfl rfl), (tw4 12 rfl rfl), ⟨by decide +kernel, by decide +kernel, by decide +kernel⟩, by decide⟩
theorem ms_X9_fillRow : Cond.instanceMethod yX9_fillRow ∈ mm_T ∧ Cond.selects (mm_C 9).1 yX9_fillRow yX9_fillRow ∈ mm_T := ⟨(tw4 11 rfl rfl), (pw1 6 rfl rfl)⟩
theorem mc_X9_fittingRules : Cond.initialized yX9_fittingRules.cls ∈ mm_T ∧ Cond.code yX9_fittingRules cX9_fittingRules 5 (some .int) ∈ mm_T ∧ (yX9_fittingRules.cls ≠ "java/lang/invoke/MethodHandle" ∧ yX9_fittingRules.cls ≠ "java/lang/invoke/VarHandle" ∧ (parseMethodDescriptor yX9_fittingRules.desc).map (fun d => d.parameters.length) = some 0) ∧ 5 ≤ 80 := ⟨(tw1 1 rfl rfl), (tw4 84 rfl rfl), ⟨by decide +kernel, by decide +kernel, by decide +kernel⟩, by decide⟩
theorem ms_X9_fittingRules : Cond.instanceMethod yX9_fittingRules ∈ mm_T ∧ Cond.selects (mm_C 9).1 yX9_fittingRules yX9_fittingRules ∈ mm_T := ⟨(tw4 83 rfl rfl), (pw1 11 rfl rfl)⟩
theorem mc_X9_gameAt : Cond.initialized yX9_gameAt.cls ∈ mm_T ∧ Cond.code yX9_gameAt cX9_gameAt 2 (some .int) ∈ mm_T ∧ (yX9_gameAt.cls ≠ "java/lang/invoke/MethodHandle" ∧ yX9_gameAt.cls ≠ "java/lang/invoke/VarHandle" ∧ (parseMethodDescriptor yX9_gameAt.desc).map (fun d => d.parameters.length) = some 2) ∧ 2 ≤ 80 := ⟨(tw1 1 rfl rfl), (tw4 60 rfl rfl), ⟨by decide +kernel, by decide +kernel, by decide +kernel⟩, by decide⟩
theorem ms_X9_gameAt : Cond.static yX9_gameAt ∈ mm_T := (tw4 59 rfl rfl)
theorem mc_X9_isLodger : Cond.initialized yX9_isLodger.cls ∈ mm_T ∧ Cond.code yX9_isLodger cX9_isLodger 2 (some .boolean) ∈ mm_T ∧ (yX9_isLodger.cls ≠ "java/lang/invoke/MethodHandle" ∧ yX9_isLodger.cls ≠ "java/lang/invoke/VarHandle" ∧ (parseMethodDescriptor yX9_isLodger.desc).map (fun d => d.parameters.length) = some 1) ∧ 2 ≤ 80 := ⟨(tw1 1 rfl rfl), (tw3 80 rfl rfl), ⟨by decide +kernel, by decide +kernel, by decide +kernel⟩, by decide⟩
theorem ms_X9_isLodger : Cond.instanceMethod yX9_isLodger ∈ mm_T ∧ Cond.selects (mm_C 9).1 yX9_isLodger yX9_isLodger ∈ mm_T := ⟨(tw3 79 rfl rfl), (pw1 2 rfl rfl)⟩
theorem mc_X9_isSettled : Cond.initialized yX9_isSettled.cls ∈ mm_T ∧ Cond.code yX9_isSettled cX9_isSettled 6 (some .boolean) ∈ mm_T ∧ (yX9_isSettled.cls ≠ "java/lang/invoke/MethodHandle" ∧ yX9_isSettled.cls ≠ "java/lang/invoke/VarHandle" ∧ (parseMethodDescriptor yX9_isSettled.desc).map (fun d => d.parameters.length) = some 4) ∧ 6 ≤ 80 := ⟨(tw1 1 rfl rfl), (tw4 64 rfl rfl), ⟨by decide +kernel, by decide +kernel, by decide +kernel⟩, by decide⟩
theorem ms_X9_isSettled : Cond.instanceMethod yX9_isSettled ∈ mm_T ∧ Cond.selects (mm_C 9).1 yX9_isSettled yX9_isSettled ∈ mm_T := ⟨(tw4 63 rfl rfl), (pw1 10 rfl rfl)⟩
theorem mc_X9_leastOther : Cond.initialized yX9_leastOther.cls ∈ mm_T ∧ Cond.code yX9_leastOther cX9_leastOther 7 (some .int) ∈ mm_T ∧ (yX9_leastOther.cls ≠ "java/lang/invoke/MethodHandle" ∧ yX9_leastOther.cls ≠ "java/lang/invoke/VarHandle" ∧ (parseMethodDescriptor yX9_leastOther.desc).map (fun d => d.parameters.length) = some 3) ∧ 7 ≤ 80 := ⟨(tw1 1 rfl rfl), (tw4 16 rfl rfl), ⟨by decide +kernel, by decide +kernel, by decide +kernel⟩, by decide⟩
theorem ms_X9_leastOther : Cond.instanceMethod yX9_leastOther ∈ mm_T ∧ Cond.selects (mm_C 9).1 yX9_leastOther yX9_leastOther ∈ mm_T := ⟨(tw4 15 rfl rfl), (pw1 7 rfl rfl)⟩
theorem mc_X9_mostAlike : Cond.initialized yX9_mostAlike.cls ∈ mm_T ∧ Cond.code yX9_mostAlike cX9_mostAlike 8 (some .int) ∈ mm_T ∧ (yX9_mostAlike.cls ≠ "java/lang/invoke/MethodHandle" ∧ yX9_mostAlike.cls ≠ "java/lang/invoke/VarHandle" ∧ (parseMethodDescriptor yX9_mostAlike.desc).map (fun d => d.parameters.length) = some 2) ∧ 8 ≤ 80 := ⟨(tw1 1 rfl rfl), (tw4 106 rfl rfl), ⟨by decide +kernel, by decide +kernel, by decide +kernel⟩, by decide⟩
theorem ms_X9_mostAlike : Cond.instanceMethod yX9_mostAlike ∈ mm_T ∧ Cond.selects (mm_C 9).1 yX9_mostAlike yX9_mostAlike ∈ mm_T := ⟨(tw4 105 rfl rfl), (pw1 12 rfl rfl)⟩
theorem mc_X9_playAll : Cond.initialized yX9_playAll.cls ∈ mm_T ∧ Cond.code yX9_playAll cX9_playAll 6 none ∈ mm_T ∧ (yX9_playAll.cls ≠ "java/lang/invoke/MethodHandle" ∧ yX9_playAll.cls ≠ "java/lang/invoke/VarHandle" ∧ (parseMethodDescriptor yX9_playAll.desc).map (fun d => d.parameters.length) = some 3) ∧ 6 ≤ 80 := ⟨(tw1 1 rfl rfl), (tw4 57 rfl rfl), ⟨by decide +kernel, by decide +kernel, by decide +kernel⟩, by decide⟩
theorem ms_X9_playAll : Cond.instanceMethod yX9_playAll ∈ mm_T ∧ Cond.selects (mm_C 9).1 yX9_playAll yX9_playAll ∈ mm_T := ⟨(tw4 56 rfl rfl), (pw1 9 rfl rfl)⟩
theorem mc_X9_suffice : Cond.initialized yX9_suffice.cls ∈ mm_T ∧ Cond.code yX9_suffice cX9_suffice 5 (some .boolean) ∈ mm_T ∧ (yX9_suffice.cls ≠ "java/lang/invoke/MethodHandle" ∧ yX9_suffice.cls ≠ "java/lang/invoke/VarHandle" ∧ (parseMethodDescriptor yX9_suffice.desc).map (fun d => d.parameters.length) = some 2) ∧ 5 ≤ 80 := ⟨(tw1 1 rfl rfl), (tw4 28 rfl rfl), ⟨by decide +kernel, by decide +kernel, by decide +kernel⟩, by decide⟩
theorem ms_X9_suffice : Cond.instanceMethod yX9_suffice ∈ mm_T ∧ Cond.selects (mm_C 9).1 yX9_suffice yX9_suffice ∈ mm_T := ⟨(tw4 27 rfl rfl), (pw1 8 rfl rfl)⟩
theorem mc_X9_sum : Cond.initialized yX9_sum.cls ∈ mm_T ∧ Cond.code yX9_sum cX9_sum 3 (some .int) ∈ mm_T ∧ (yX9_sum.cls ≠ "java/lang/invoke/MethodHandle" ∧ yX9_sum.cls ≠ "java/lang/invoke/VarHandle" ∧ (parseMethodDescriptor yX9_sum.desc).map (fun d => d.parameters.length) = some 1) ∧ 3 ≤ 80 := ⟨(tw1 1 rfl rfl), (tw3 107 rfl rfl), ⟨by decide +kernel, by decide +kernel, by decide +kernel⟩, by decide⟩
theorem ms_X9_sum : Cond.static yX9_sum ∈ mm_T := (tw3 106 rfl rfl)
theorem mc_X9_walkFromNow : Cond.initialized yX9_walkFromNow.cls ∈ mm_T ∧ Cond.code yX9_walkFromNow cX9_walkFromNow 1 none ∈ mm_T ∧ (yX9_walkFromNow.cls ≠ "java/lang/invoke/MethodHandle" ∧ yX9_walkFromNow.cls ≠ "java/lang/invoke/VarHandle" ∧ (parseMethodDescriptor yX9_walkFromNow.desc).map (fun d => d.parameters.length) = some 0) ∧ 1 ≤ 80 := ⟨(tw1 1 rfl rfl), (tw3 126 rfl rfl), ⟨by decide +kernel, by decide +kernel, by decide +kernel⟩, by decide⟩
theorem ms_X9_walkFromNow : Cond.instanceMethod yX9_walkFromNow ∈ mm_T ∧ Cond.selects (mm_C 9).1 yX9_walkFromNow yX9_walkFromNow ∈ mm_T := ⟨(tw3 125 rfl rfl), (pw1 4 rfl rfl)⟩
theorem cp_RX1_44 : mm_cp RX1 44 := ⟨(tw3 28 rfl rfl), (tw3 30 rfl rfl), (tw3 29 rfl rfl), (tw1 17 rfl rfl)⟩
theorem cp_RX2_40 : mm_cp RX2 40 := ⟨(tw3 35 rfl rfl), (tw3 30 rfl rfl), (tw3 29 rfl rfl), (tw1 17 rfl rfl)⟩
theorem cp_RX3_25 : mm_cp RX3 25 := ⟨(tw4 141 rfl rfl), (tw3 30 rfl rfl), (tw3 29 rfl rfl), (tw1 17 rfl rfl)⟩
theorem cp_RX7_117 : mm_cp RX7 117 := ⟨(tw3 150 rfl rfl), (tw3 30 rfl rfl), (tw3 29 rfl rfl), (tw1 17 rfl rfl)⟩
theorem ml_RX0_25 : mm_mlV RX0 25 (yX2_take, cX2_take, 2, none) 2 1 := ⟨by decide, rfl, ⟨(tw3 116 rfl rfl), mc_X2_take⟩, ms_X2_take⟩
theorem ml_RX10_101 : mm_mlV RX10 101 (yX10_four, cX10_four, 3, none) 10 1 := ⟨by decide, rfl, ⟨(tw5 55 rfl rfl), mc_X10_four⟩, ms_X10_four⟩
theorem ml_RX10_111 : mm_mlV RX10 111 (yX10_see, cX10_see, 1, (some .int)) 10 0 := ⟨by decide, rfl, ⟨(tw5 75 rfl rfl), mc_X10_see⟩, ms_X10_see⟩
theorem ml_RX10_115 : mm_mlV RX10 115 (yX10_isLetter, cX10_isLetter, 2, (some .boolean)) 10 1 := ⟨by decide, rfl, ⟨(tw5 88 rfl rfl), mc_X10_isLetter⟩, ms_X10_isLetter⟩
theorem ml_RX10_119 : mm_mlV RX10 119 (yX10_isWord, cX10_isWord, 6, (some .boolean)) 10 1 := ⟨by decide, rfl, ⟨(tw5 84 rfl rfl), mc_X10_isWord⟩, ms_X10_isWord⟩
theorem ml_RX10_123 : mm_mlV RX10 123 (yX10_passWord, cX10_passWord, 1, none) 10 0 := ⟨by decide, rfl, ⟨(tw5 108 rfl rfl), mc_X10_passWord⟩, ms_X10_passWord⟩
theorem ml_RX10_126 : mm_mlV RX10 126 (yX10_isDigit, cX10_isDigit, 2, (some .boolean)) 10 1 := ⟨by decide, rfl, ⟨(tw5 120 rfl rfl), mc_X10_isDigit⟩, ms_X10_isDigit⟩
theorem ml_RX10_129 : mm_mlV RX10 129 (yX10_fails, cX10_fails, 3, (some .boolean)) 10 2 := ⟨by decide, rfl, ⟨(tw5 96 rfl rfl), mc_X10_fails⟩, ms_X10_fails⟩
theorem ml_RX10_136 : mm_mlS RX10 136 (yX10_in, cX10_in, 6, (some .boolean)) 3 := ⟨⟨(tw5 124 rfl rfl), mc_X10_in⟩, ms_X10_in⟩
theorem ml_RX10_178 : mm_mlS RX10 178 (yX10_strength, cX10_strength, 1, (some .int)) 1 := ⟨⟨(tw5 209 rfl rfl), mc_X10_strength⟩, ms_X10_strength⟩
theorem ml_RX10_182 : mm_mlV RX10 182 (yX10_puts, cX10_puts, 3, none) 10 2 := ⟨by decide, rfl, ⟨(tw5 160 rfl rfl), mc_X10_puts⟩, ms_X10_puts⟩
theorem ml_RX10_187 : mm_mlV RX10 187 (yX10_numberHere, cX10_numberHere, 5, (some .boolean)) 10 2 := ⟨by decide, rfl, ⟨(tw5 116 rfl rfl), mc_X10_numberHere⟩, ms_X10_numberHere⟩
theorem ml_RX10_190 : mm_mlV RX10 190 (yX10_makes, cX10_makes, 2, (some .boolean)) 10 1 := ⟨by decide, rfl, ⟨(tw5 156 rfl rfl), mc_X10_makes⟩, ms_X10_makes⟩
theorem ml_RX10_193 : mm_mlV RX10 193 (yX10_wordHere, cX10_wordHere, 1, (some .int)) 10 0 := ⟨by decide, rfl, ⟨(tw5 164 rfl rfl), mc_X10_wordHere⟩, ms_X10_wordHere⟩
theorem ml_RX10_196 : mm_mlV RX10 196 (yX10_value, cX10_value, 3, (some .boolean)) 10 0 := ⟨by decide, rfl, ⟨(tw5 151 rfl rfl), mc_X10_value⟩, ms_X10_value⟩
theorem ml_RX10_200 : mm_mlV RX10 200 (yX10_term, cX10_term, 2, (some .boolean)) 10 0 := ⟨by decide, rfl, ⟨(tw5 147 rfl rfl), mc_X10_term⟩, ms_X10_term⟩
theorem ml_RX10_203 : mm_mlV RX10 203 (yX10_sum, cX10_sum, 2, (some .boolean)) 10 0 := ⟨by decide, rfl, ⟨(tw5 143 rfl rfl), mc_X10_sum⟩, ms_X10_sum⟩
theorem ml_RX10_208 : mm_mlV RX10 208 (yX10_opens, cX10_opens, 2, (some .boolean)) 10 1 := ⟨by decide, rfl, ⟨(tw5 193 rfl rfl), mc_X10_opens⟩, ms_X10_opens⟩
theorem ml_RX10_211 : mm_mlV RX10 211 (yX10_compare, cX10_compare, 5, (some .boolean)) 10 0 := ⟨by decide, rfl, ⟨(tw5 197 rfl rfl), mc_X10_compare⟩, ms_X10_compare⟩
theorem ml_RX10_214 : mm_mlV RX10 214 (yX10_layDown, cX10_layDown, 2, none) 10 1 := ⟨by decide, rfl, ⟨(tw5 205 rfl rfl), mc_X10_layDown⟩, ms_X10_layDown⟩
theorem ml_RX10_217 : mm_mlV RX10 217 (yX10_isInside, cX10_isInside, 2, (some .boolean)) 10 0 := ⟨by decide, rfl, ⟨(tw5 212 rfl rfl), mc_X10_isInside⟩, ms_X10_isInside⟩
theorem ml_RX10_220 : mm_mlV RX10 220 (yX10_fact, cX10_fact, 3, (some .boolean)) 10 0 := ⟨by decide, rfl, ⟨(tw5 188 rfl rfl), mc_X10_fact⟩, ms_X10_fact⟩
theorem ml_RX10_223 : mm_mlV RX10 223 (yX10_closes, cX10_closes, 1, none) 10 0 := ⟨by decide, rfl, ⟨(tw5 201 rfl rfl), mc_X10_closes⟩, ms_X10_closes⟩
theorem ml_RX10_232 : mm_mlV RX10 232 (yX10_takesWord, cX10_takesWord, 3, (some .boolean)) 10 1 := ⟨by decide, rfl, ⟨(tw5 180 rfl rfl), mc_X10_takesWord⟩, ms_X10_takesWord⟩
theorem ml_RX10_235 : mm_mlV RX10 235 (yX10_tested, cX10_tested, 3, (some .boolean)) 10 0 := ⟨by decide, rfl, ⟨(tw5 184 rfl rfl), mc_X10_tested⟩, ms_X10_tested⟩
theorem ml_RX10_238 : mm_mlV RX10 238 (yX10_cellHere, cX10_cellHere, 4, (some .boolean)) 10 3 := ⟨by decide, rfl, ⟨(tw5 112 rfl rfl), mc_X10_cellHere⟩, ms_X10_cellHere⟩
theorem ml_RX10_244 : mm_mlV RX10 244 (yX10_isHouseHere, cX10_isHouseHere, 2, (some .boolean)) 10 1 := ⟨by decide, rfl, ⟨(tw5 104 rfl rfl), mc_X10_isHouseHere⟩, ms_X10_isHouseHere⟩
theorem ml_RX10_247 : mm_mlV RX10 247 (yX10_isLodgerHere, cX10_isLodgerHere, 2, (some .boolean)) 10 1 := ⟨by decide, rfl, ⟨(tw5 127 rfl rfl), mc_X10_isLodgerHere⟩, ms_X10_isLodgerHere⟩
theorem ml_RX10_250 : mm_mlV RX10 250 (yX10_isDearHere, cX10_isDearHere, 3, (some .boolean)) 10 0 := ⟨by decide, rfl, ⟨(tw5 131 rfl rfl), mc_X10_isDearHere⟩, ms_X10_isDearHere⟩
theorem ml_RX10_253 : mm_mlV RX10 253 (yX10_isCountHere, cX10_isCountHere, 1, (some .boolean)) 10 0 := ⟨by decide, rfl, ⟨(tw5 135 rfl rfl), mc_X10_isCountHere⟩, ms_X10_isCountHere⟩
theorem ml_RX10_258 : mm_mlV RX10 258 (yX10_isHouseWord, cX10_isHouseWord, 1, (some .boolean)) 10 0 := ⟨by decide, rfl, ⟨(tw5 79 rfl rfl), mc_X10_isHouseWord⟩, ms_X10_isHouseWord⟩
theorem ml_RX10_266 : mm_mlV RX10 266 (yX10_houseLineHere, cX10_houseLineHere, 2, (some .boolean)) 10 1 := ⟨by decide, rfl, ⟨(tw5 100 rfl rfl), mc_X10_houseLineHere⟩, ms_X10_houseLineHere⟩
theorem ml_RX10_269 : mm_mlV RX10 269 (yX10_isSeekHere, cX10_isSeekHere, 2, (some .boolean)) 10 0 := ⟨by decide, rfl, ⟨(tw5 139 rfl rfl), mc_X10_isSeekHere⟩, ms_X10_isSeekHere⟩
theorem ml_RX10_272 : mm_mlV RX10 272 (yX10_clauseHere, cX10_clauseHere, 3, (some .boolean)) 10 0 := ⟨by decide, rfl, ⟨(tw5 71 rfl rfl), mc_X10_clauseHere⟩, ms_X10_clauseHere⟩
theorem ml_RX10_278 : mm_mlV RX10 278 (yX10_readsAll, cX10_readsAll, 2, (some .boolean)) 10 0 := ⟨by decide, rfl, ⟨(tw5 67 rfl rfl), mc_X10_readsAll⟩, ms_X10_readsAll⟩
theorem ml_RX10_281 : mm_mlV RX10 281 (yX10_begins, cX10_begins, 3, none) 10 0 := ⟨by decide, rfl, ⟨(tw5 222 rfl rfl), mc_X10_begins⟩, ms_X10_begins⟩
theorem ml_RX10_290 : mm_mlV RX10 290 (yX10_push, cX10_push, 3, none) 10 1 := ⟨by decide, rfl, ⟨(tw6 89 rfl rfl), mc_X10_push⟩, ms_X10_push⟩
theorem ml_RX10_294 : mm_mlV RX10 294 (yX10_pop, cX10_pop, 1, (some .long)) 10 0 := ⟨by decide, rfl, ⟨(tw6 93 rfl rfl), mc_X10_pop⟩, ms_X10_pop⟩
theorem ml_RX10_298 : mm_mlS RX10 298 (yX10_one, cX10_one, 5, (some .long)) 3 := ⟨⟨(tw6 97 rfl rfl), mc_X10_one⟩, ms_X10_one⟩
theorem ml_RX10_302 : mm_mlV RX10 302 (yX10_isIn, cX10_isIn, 2, (some .boolean)) 10 1 := ⟨by decide, rfl, ⟨(tw6 54 rfl rfl), mc_X10_isIn⟩, ms_X10_isIn⟩
theorem ml_RX10_305 : mm_mlV RX10 305 (yX10_soughtBy, cX10_soughtBy, 2, (some .int)) 10 1 := ⟨by decide, rfl, ⟨(tw6 39 rfl rfl), mc_X10_soughtBy⟩, ms_X10_soughtBy⟩
theorem ml_RX10_308 : mm_mlV RX10 308 (yX10_tiredOf, cX10_tiredOf, 2, (some .int)) 10 1 := ⟨by decide, rfl, ⟨(tw6 66 rfl rfl), mc_X10_tiredOf⟩, ms_X10_tiredOf⟩
theorem ml_RX10_311 : mm_mlV RX10 311 (yX10_sleptBy, cX10_sleptBy, 2, (some .int)) 10 1 := ⟨by decide, rfl, ⟨(tw6 140 rfl rfl), mc_X10_sleptBy⟩, ms_X10_sleptBy⟩
theorem ml_RX10_314 : mm_mlS RX10 314 (yX10_isOf, cX10_isOf, 2, (some .boolean)) 2 := ⟨⟨(tw6 43 rfl rfl), mc_X10_isOf⟩, ms_X10_isOf⟩
theorem ml_RX10_317 : mm_mlV RX10 317 (yX10_isRule, cX10_isRule, 2, (some .boolean)) 10 1 := ⟨by decide, rfl, ⟨(tw5 230 rfl rfl), mc_X10_isRule⟩, ms_X10_isRule⟩
theorem ml_RX10_320 : mm_mlV RX10 320 (yX10_isLodger, cX10_isLodger, 2, (some .boolean)) 10 1 := ⟨by decide, rfl, ⟨(tw5 238 rfl rfl), mc_X10_isLodger⟩, ms_X10_isLodger⟩
theorem ml_RX10_325 : mm_mlV RX10 325 (yX10_areTwo, cX10_areTwo, 3, (some .boolean)) 10 2 := ⟨by decide, rfl, ⟨(tw6 7 rfl rfl), mc_X10_areTwo⟩, ms_X10_areTwo⟩
theorem ml_RX10_328 : mm_mlV RX10 328 (yX10_reckons, cX10_reckons, 11, (some .long)) 10 3 := ⟨by decide, rfl, ⟨(tw6 85 rfl rfl), mc_X10_reckons⟩, ms_X10_reckons⟩
theorem ml_RX10_332 : mm_mlV RX10 332 (yX10_penceOf, cX10_penceOf, 2, (some .int)) 10 1 := ⟨by decide, rfl, ⟨(tw6 70 rfl rfl), mc_X10_penceOf⟩, ms_X10_penceOf⟩
theorem ml_RX10_335 : mm_mlV RX10 335 (yX10_inside, cX10_inside, 3, (some .int)) 10 0 := ⟨by decide, rfl, ⟨(tw6 74 rfl rfl), mc_X10_inside⟩, ms_X10_inside⟩
theorem ml_RX10_338 : mm_mlS RX10 338 (yX10_bits, cX10_bits, 3, (some .int)) 1 := ⟨⟨(tw6 78 rfl rfl), mc_X10_bits⟩, ms_X10_bits⟩
theorem ml_RX10_344 : mm_mlV RX10 344 (yX10_summedBy, cX10_summedBy, 4, (some .long)) 10 1 := ⟨by decide, rfl, ⟨(tw6 81 rfl rfl), mc_X10_summedBy⟩, ms_X10_summedBy⟩
theorem ml_RX10_348 : mm_mlV RX10 348 (yX10_sumOf, cX10_sumOf, 3, (some .long)) 10 2 := ⟨by decide, rfl, ⟨(tw6 62 rfl rfl), mc_X10_sumOf⟩, ms_X10_sumOf⟩
theorem ml_RX10_352 : mm_mlV RX10 352 (yX10_soughtOnes, cX10_soughtOnes, 3, (some .int)) 10 0 := ⟨by decide, rfl, ⟨(tw6 35 rfl rfl), mc_X10_soughtOnes⟩, ms_X10_soughtOnes⟩
theorem ml_RX10_355 : mm_mlV RX10 355 (yX10_isCounted, cX10_isCounted, 1, (some .boolean)) 10 0 := ⟨by decide, rfl, ⟨(tw6 46 rfl rfl), mc_X10_isCounted⟩, ms_X10_isCounted⟩
theorem ml_RX10_361 : mm_mlV RX10 361 (yX10_choice, cX10_choice, 8, (some .int)) 10 1 := ⟨by decide, rfl, ⟨(tw6 58 rfl rfl), mc_X10_choice⟩, ms_X10_choice⟩
theorem ml_RX10_364 : mm_mlV RX10 364 (yX10_goesIn, cX10_goesIn, 4, none) 10 0 := ⟨by decide, rfl, ⟨(tw6 31 rfl rfl), mc_X10_goesIn⟩, ms_X10_goesIn⟩
theorem ml_RX10_367 : mm_mlV RX10 367 (yX10_seeks, cX10_seeks, 4, none) 10 0 := ⟨by decide, rfl, ⟨(tw6 50 rfl rfl), mc_X10_seeks⟩, ms_X10_seeks⟩
theorem ml_RX10_370 : mm_mlV RX10 370 (yX10_sleeps1, cX10_sleeps1, 3, none) 10 0 := ⟨by decide, rfl, ⟨(tw6 100 rfl rfl), mc_X10_sleeps1⟩, ms_X10_sleeps1⟩
theorem ml_RX10_373 : mm_mlV RX10 373 (yX10_pays, cX10_pays, 3, none) 10 1 := ⟨by decide, rfl, ⟨(tw6 104 rfl rfl), mc_X10_pays⟩, ms_X10_pays⟩
theorem ml_RX10_376 : mm_mlV RX10 376 (yX10_passes, cX10_passes, 2, (some .int)) 10 0 := ⟨by decide, rfl, ⟨(tw6 27 rfl rfl), mc_X10_passes⟩, ms_X10_passes⟩
theorem ml_RX10_379 : mm_mlV RX10 379 (yX10_isHouse, cX10_isHouse, 1, (some .boolean)) 10 0 := ⟨by decide, rfl, ⟨(tw6 19 rfl rfl), mc_X10_isHouse⟩, ms_X10_isHouse⟩
theorem ml_RX10_382 : mm_mlV RX10 382 (yX10_keepsAct, cX10_keepsAct, 2, none) 10 0 := ⟨by decide, rfl, ⟨(tw6 23 rfl rfl), mc_X10_keepsAct⟩, ms_X10_keepsAct⟩
theorem ml_RX10_393 : mm_mlV RX10 393 (yX10_keeps, cX10_keeps, 2, none) 10 0 := ⟨by decide, rfl, ⟨(tw6 132 rfl rfl), mc_X10_keeps⟩, ms_X10_keeps⟩
theorem ml_RX10_396 : mm_mlV RX10 396 (yX10_passesAll, cX10_passesAll, 3, none) 10 1 := ⟨by decide, rfl, ⟨(tw6 136 rfl rfl), mc_X10_passesAll⟩, ms_X10_passesAll⟩
theorem ml_RX10_399 : mm_mlV RX10 399 (yX10_laysBack, cX10_laysBack, 2, none) 10 0 := ⟨by decide, rfl, ⟨(tw6 144 rfl rfl), mc_X10_laysBack⟩, ms_X10_laysBack⟩
theorem ml_RX10_408 : mm_mlV RX10 408 (yX10_weighsRow, cX10_weighsRow, 4, none) 10 0 := ⟨by decide, rfl, ⟨(tw6 170 rfl rfl), mc_X10_weighsRow⟩, ms_X10_weighsRow⟩
theorem ml_RX10_415 : mm_mlV RX10 415 (yX10_findsRow, cX10_findsRow, 2, none) 10 0 := ⟨by decide, rfl, ⟨(tw6 166 rfl rfl), mc_X10_findsRow⟩, ms_X10_findsRow⟩
theorem ml_RX10_422 : mm_mlV RX10 422 (yX10_isNobodyWeary, cX10_isNobodyWeary, 2, (some .boolean)) 10 0 := ⟨by decide, rfl, ⟨(tw6 184 rfl rfl), mc_X10_isNobodyWeary⟩, ms_X10_isNobodyWeary⟩
theorem ml_RX10_425 : mm_mlV RX10 425 (yX10_sleptAll, cX10_sleptAll, 3, (some .int)) 10 0 := ⟨by decide, rfl, ⟨(tw6 196 rfl rfl), mc_X10_sleptAll⟩, ms_X10_sleptAll⟩
theorem ml_RX10_428 : mm_mlV RX10 428 (yX10_sleptIn, cX10_sleptIn, 4, (some .int)) 10 1 := ⟨by decide, rfl, ⟨(tw6 192 rfl rfl), mc_X10_sleptIn⟩, ms_X10_sleptIn⟩
theorem ml_RX10_431 : mm_mlV RX10 431 (yX10_areAlike, cX10_areAlike, 4, (some .boolean)) 10 2 := ⟨by decide, rfl, ⟨(tw6 208 rfl rfl), mc_X10_areAlike⟩, ms_X10_areAlike⟩
theorem ml_RX10_436 : mm_mlV RX10 436 (yX10_fillsRests, cX10_fillsRests, 6, none) 10 3 := ⟨by decide, rfl, ⟨(tw6 221 rfl rfl), mc_X10_fillsRests⟩, ms_X10_fillsRests⟩
theorem ml_RX10_440 : mm_mlV RX10 440 (yX10_isRest, cX10_isRest, 6, (some .boolean)) 10 4 := ⟨by decide, rfl, ⟨(tw6 225 rfl rfl), mc_X10_isRest⟩, ms_X10_isRest⟩
theorem ml_RX10_444 : mm_mlS RX10 444 (yX10_spot, cX10_spot, 2, (some .int)) 2 := ⟨⟨(tw7 5 rfl rfl), mc_X10_spot⟩, ms_X10_spot⟩
theorem ml_RX10_448 : mm_mlV RX10 448 (yX10_areNotesSo, cX10_areNotesSo, 3, (some .boolean)) 10 1 := ⟨by decide, rfl, ⟨(tw7 8 rfl rfl), mc_X10_areNotesSo⟩, ms_X10_areNotesSo⟩
theorem ml_RX10_451 : mm_mlV RX10 451 (yX10_fillsFits, cX10_fillsFits, 4, none) 10 0 := ⟨by decide, rfl, ⟨(tw7 1 rfl rfl), mc_X10_fillsFits⟩, ms_X10_fillsFits⟩
theorem ml_RX10_454 : mm_mlV RX10 454 (yX10_alikeAt, cX10_alikeAt, 6, (some .int)) 10 1 := ⟨by decide, rfl, ⟨(tw7 16 rfl rfl), mc_X10_alikeAt⟩, ms_X10_alikeAt⟩
theorem ml_RX10_474 : mm_mlV RX10 474 (yX10_draw, cX10_draw, 2, (some .int)) 10 1 := ⟨by decide, rfl, ⟨(tw7 29 rfl rfl), mc_X10_draw⟩, ms_X10_draw⟩
theorem ml_RX10_477 : mm_mlV RX10 477 (yX10_tiredAll, cX10_tiredAll, 3, (some .int)) 10 0 := ⟨by decide, rfl, ⟨(tw7 37 rfl rfl), mc_X10_tiredAll⟩, ms_X10_tiredAll⟩
theorem ml_RX1_38 : mm_mlS RX1 38 (yJ7_fill_53178, cJ7_fill_53178, 4, none) 2 := ⟨⟨(tw2 139 rfl rfl), mc_J7_fill_53178⟩, ms_J7_fill_53178⟩
theorem ml_RX2_24 : mm_mlS RX2 24 (yJ7_fill_53178, cJ7_fill_53178, 4, none) 2 := ⟨⟨(tw1 167 rfl rfl), mc_J7_fill_53178⟩, ms_J7_fill_53178⟩
theorem ml_RX4_120 : mm_mlV RX4 120 (yX4_isSign, cX4_isSign, 2, (some .boolean)) 4 1 := ⟨by decide, rfl, ⟨(tw3 20 rfl rfl), mc_X4_isSign⟩, ms_X4_isSign⟩
theorem ml_RX4_123 : mm_mlV RX4 123 (yX4_fail, cX4_fail, 2, none) 4 1 := ⟨by decide, rfl, ⟨(tw3 4 rfl rfl), mc_X4_fail⟩, ms_X4_fail⟩
theorem ml_RX4_127 : mm_mlV RX4 127 (yX4_isWord, cX4_isWord, 2, (some .boolean)) 4 1 := ⟨by decide, rfl, ⟨(tw3 0 rfl rfl), mc_X4_isWord⟩, ms_X4_isWord⟩
theorem ml_RX4_133 : mm_mlV RX4 133 (yX4_readNumber, cX4_readNumber, 5, (some .int)) 4 3 := ⟨by decide, rfl, ⟨(tw3 8 rfl rfl), mc_X4_readNumber⟩, ms_X4_readNumber⟩
theorem ml_RX4_143 : mm_mlV RX4 143 (yX1_addLodger, cX1_addLodger, 3, none) 1 2 := ⟨by decide, rfl, ⟨(tw3 12 rfl rfl), mc_X1_addLodger⟩, ms_X1_addLodger⟩
theorem ml_RX4_147 : mm_mlV RX4 147 (yX1_setDearness, cX1_setDearness, 5, none) 1 3 := ⟨by decide, rfl, ⟨(tw3 16 rfl rfl), mc_X1_setDearness⟩, ms_X1_setDearness⟩
theorem ml_RX4_156 : mm_mlV RX4 156 (yX4_readSum, cX4_readSum, 5, none) 4 1 := ⟨by decide, rfl, ⟨(tw3 48 rfl rfl), mc_X4_readSum⟩, ms_X4_readSum⟩
theorem ml_RX4_160 : mm_mlV RX4 160 (yX4_readTest, cX4_readTest, 6, none) 4 2 := ⟨by decide, rfl, ⟨(tw3 61 rfl rfl), mc_X4_readTest⟩, ms_X4_readTest⟩
theorem ml_RX4_164 : mm_mlV RX4 164 (yX5_add, cX5_add, 2, none) 5 1 := ⟨by decide, rfl, ⟨(tw3 60 rfl rfl), mc_X5_add⟩, ms_X5_add⟩
theorem ml_RX4_167 : mm_mlV RX4 167 (yX4_readFact, cX4_readFact, 6, none) 4 2 := ⟨by decide, rfl, ⟨(tw3 65 rfl rfl), mc_X4_readFact⟩, ms_X4_readFact⟩
theorem ml_RX4_170 : mm_mlV RX4 170 (yX4_countPart, cX4_countPart, 1, none) 4 0 := ⟨by decide, rfl, ⟨(tw3 56 rfl rfl), mc_X4_countPart⟩, ms_X4_countPart⟩
theorem ml_RX4_173 : mm_mlV RX4 173 (yX4_readValue, cX4_readValue, 3, none) 4 1 := ⟨by decide, rfl, ⟨(tw3 52 rfl rfl), mc_X4_readValue⟩, ms_X4_readValue⟩
theorem ml_RX4_38 : mm_mlV RX4 38 (yX4_step, cX4_step, 1, none) 4 0 := ⟨by decide, rfl, ⟨(tw2 232 rfl rfl), mc_X4_step⟩, ms_X4_step⟩
theorem ml_RX4_58 : mm_mlV RX4 58 (yX4_isLetter, cX4_isLetter, 2, (some .boolean)) 4 1 := ⟨by decide, rfl, ⟨(tw2 148 rfl rfl), mc_X4_isLetter⟩, ms_X4_isLetter⟩
theorem ml_RX4_74 : mm_mlV RX4 74 (yX4_isDigit, cX4_isDigit, 2, (some .boolean)) 4 1 := ⟨by decide, rfl, ⟨(tw2 213 rfl rfl), mc_X4_isDigit⟩, ms_X4_isDigit⟩
theorem ml_RX7_105 : mm_mlV RX7 105 (yX2_sought, cX2_sought, 3, (some .int)) 2 0 := ⟨by decide, rfl, ⟨(tw3 141 rfl rfl), mc_X2_sought⟩, ms_X2_sought⟩
theorem ml_RX7_107 : mm_mlV RX7 107 (yX1_countsAt, cX1_countsAt, 2, (some .boolean)) 1 1 := ⟨by decide, rfl, ⟨(tw3 145 rfl rfl), mc_X1_countsAt⟩, ms_X1_countsAt⟩
theorem ml_RX7_123 : mm_mlV RX7 123 (yX2_isIn, cX2_isIn, 2, (some .boolean)) 2 1 := ⟨by decide, rfl, ⟨(tw3 151 rfl rfl), mc_X2_isIn⟩, ms_X2_isIn⟩
theorem ml_RX7_126 : mm_mlV RX7 126 (yX7_bestOther, cX7_bestOther, 9, (some .int)) 7 2 := ⟨by decide, rfl, ⟨(tw3 152 rfl rfl), mc_X7_bestOther⟩, ms_X7_bestOther⟩
theorem ml_RX7_136 : mm_mlS RX7 136 (yJ6_bitCount_0f7a4, cJ6_bitCount_0f7a4, 1, (some .int)) 1 := ⟨⟨(tw3 156 rfl rfl), mc_J6_bitCount_0f7a4⟩, ms_J6_bitCount_0f7a4⟩
theorem ml_RX7_142 : mm_mlV RX7 142 (yX1_dearness, cX1_dearness, 4, (some .int)) 1 2 := ⟨by decide, rfl, ⟨(tw3 162 rfl rfl), mc_X1_dearness⟩, ms_X1_dearness⟩
theorem ml_RX7_145 : mm_mlV RX7 145 (yX7_worthByRule, cX7_worthByRule, 4, (some .long)) 7 0 := ⟨by decide, rfl, ⟨(tw3 163 rfl rfl), mc_X7_worthByRule⟩, ms_X7_worthByRule⟩
theorem ml_RX7_157 : mm_mlS RX7 157 (yX7_joined, cX7_joined, 5, (some .long)) 3 := ⟨⟨(tw3 167 rfl rfl), mc_X7_joined⟩, ms_X7_joined⟩
theorem ml_RX7_172 : mm_mlV RX7 172 (yX2_tireBy, cX2_tireBy, 3, none) 2 2 := ⟨by decide, rfl, ⟨(tw3 177 rfl rfl), mc_X2_tireBy⟩, ms_X2_tireBy⟩
theorem ml_RX7_176 : mm_mlV RX7 176 (yX7_firstSeeker, cX7_firstSeeker, 3, (some .int)) 7 1 := ⟨by decide, rfl, ⟨(tw3 186 rfl rfl), mc_X7_firstSeeker⟩, ms_X7_firstSeeker⟩
theorem ml_RX7_179 : mm_mlV RX7 179 (yX2_give, cX2_give, 4, none) 2 3 := ⟨by decide, rfl, ⟨(tw3 190 rfl rfl), mc_X2_give⟩, ms_X2_give⟩
theorem ml_RX7_43 : mm_mlV RX7 43 (yX2_take, cX2_take, 2, none) 2 1 := ⟨by decide, rfl, ⟨(tw3 131 rfl rfl), mc_X2_take⟩, ms_X2_take⟩
theorem ml_RX7_60 : mm_mlS RX7 60 (yJ7_fill_53178, cJ7_fill_53178, 4, none) 2 := ⟨⟨(tw3 132 rfl rfl), mc_J7_fill_53178⟩, ms_J7_fill_53178⟩
theorem ml_RX7_66 : mm_mlV RX7 66 (yX2_begin, cX2_begin, 2, none) 2 1 := ⟨by decide, rfl, ⟨(tw4 89 rfl rfl), mc_X2_begin⟩, ms_X2_begin⟩
theorem ml_RX7_70 : mm_mlV RX7 70 (yX7_begin, cX7_begin, 3, none) 7 2 := ⟨by decide, rfl, ⟨(tw4 90 rfl rfl), mc_X7_begin⟩, ms_X7_begin⟩
theorem ml_RX7_73 : mm_mlV RX7 73 (yX7_goIn, cX7_goIn, 2, none) 7 0 := ⟨by decide, rfl, ⟨(tw3 137 rfl rfl), mc_X7_goIn⟩, ms_X7_goIn⟩
theorem ml_RX7_76 : mm_mlV RX7 76 (yX7_lookForOthers, cX7_lookForOthers, 4, none) 7 0 := ⟨by decide, rfl, ⟨(tw3 146 rfl rfl), mc_X7_lookForOthers⟩, ms_X7_lookForOthers⟩
theorem ml_RX7_79 : mm_mlV RX7 79 (yX7_sleepOrTire, cX7_sleepOrTire, 2, none) 7 0 := ⟨by decide, rfl, ⟨(tw3 170 rfl rfl), mc_X7_sleepOrTire⟩, ms_X7_sleepOrTire⟩
theorem ml_RX7_82 : mm_mlV RX7 82 (yX7_payTheSeekers, cX7_payTheSeekers, 3, none) 7 0 := ⟨by decide, rfl, ⟨(tw3 182 rfl rfl), mc_X7_payTheSeekers⟩, ms_X7_payTheSeekers⟩
theorem ml_RX7_88 : mm_mlV RX7 88 (yX7_nextDraw, cX7_nextDraw, 1, (some .int)) 7 0 := ⟨by decide, rfl, ⟨(tw4 119 rfl rfl), mc_X7_nextDraw⟩, ms_X7_nextDraw⟩
theorem ml_RX8_36 : mm_mlV RX8 36 (yX1_take, cX1_take, 2, none) 1 1 := ⟨by decide, rfl, ⟨(tw4 135 rfl rfl), mc_X1_take⟩, ms_X1_take⟩
theorem ml_RX8_40 : mm_mlV RX8 40 (yX2_take, cX2_take, 2, none) 2 1 := ⟨by decide, rfl, ⟨(tw4 136 rfl rfl), mc_X2_take⟩, ms_X2_take⟩
theorem ml_RX8_43 : mm_mlV RX8 43 (yX3_take, cX3_take, 2, none) 3 1 := ⟨by decide, rfl, ⟨(tw4 137 rfl rfl), mc_X3_take⟩, ms_X3_take⟩
theorem ml_RX9_125 : mm_mlV RX9 125 (yX0_forget, cX0_forget, 1, none) 0 0 := ⟨by decide, rfl, ⟨(tw3 36 rfl rfl), mc_X0_forget⟩, ms_X0_forget⟩
theorem ml_RX9_138 : mm_mlV RX9 138 (yX9_isLodger, cX9_isLodger, 2, (some .boolean)) 9 1 := ⟨by decide, rfl, ⟨(tw3 77 rfl rfl), mc_X9_isLodger⟩, ms_X9_isLodger⟩
theorem ml_RX9_148 : mm_mlV RX9 148 (yX2_isIn, cX2_isIn, 2, (some .boolean)) 2 1 := ⟨by decide, rfl, ⟨(tw3 81 rfl rfl), mc_X2_isIn⟩, ms_X2_isIn⟩
theorem ml_RX9_157 : mm_mlV RX9 157 (yX9_areUnlike, cX9_areUnlike, 3, (some .boolean)) 9 2 := ⟨by decide, rfl, ⟨(tw3 89 rfl rfl), mc_X9_areUnlike⟩, ms_X9_areUnlike⟩
theorem ml_RX9_161 : mm_mlV RX9 161 (yX1_dearness, cX1_dearness, 4, (some .int)) 1 2 := ⟨by decide, rfl, ⟨(tw3 93 rfl rfl), mc_X1_dearness⟩, ms_X1_dearness⟩
theorem ml_RX9_177 : mm_mlV RX9 177 (yX1_countsAt, cX1_countsAt, 2, (some .boolean)) 1 1 := ⟨by decide, rfl, ⟨(tw3 101 rfl rfl), mc_X1_countsAt⟩, ms_X1_countsAt⟩
theorem ml_RX9_180 : mm_mlS RX9 180 (yX9_sum, cX9_sum, 3, (some .int)) 1 := ⟨⟨(tw3 105 rfl rfl), mc_X9_sum⟩, ms_X9_sum⟩
theorem ml_RX9_192 : mm_mlV RX9 192 (yX0_keep, cX0_keep, 2, none) 0 1 := ⟨by decide, rfl, ⟨(tw3 112 rfl rfl), mc_X0_keep⟩, ms_X0_keep⟩
theorem ml_RX9_196 : mm_mlV RX9 196 (yX9_walkFromNow, cX9_walkFromNow, 1, none) 9 0 := ⟨by decide, rfl, ⟨(tw3 123 rfl rfl), mc_X9_walkFromNow⟩, ms_X9_walkFromNow⟩
theorem ml_RX9_199 : mm_mlV RX9 199 (yX7_passHours, cX7_passHours, 3, none) 7 1 := ⟨by decide, rfl, ⟨(tw3 133 rfl rfl), mc_X7_passHours⟩, ms_X7_passHours⟩
theorem ml_RX9_203 : mm_mlV RX9 203 (yX2_take, cX2_take, 2, none) 2 1 := ⟨by decide, rfl, ⟨(tw3 194 rfl rfl), mc_X2_take⟩, ms_X2_take⟩
theorem ml_RX9_205 : mm_mlV RX9 205 (yX2_give, cX2_give, 4, none) 2 3 := ⟨by decide, rfl, ⟨(tw3 207 rfl rfl), mc_X2_give⟩, ms_X2_give⟩
theorem ml_RX9_209 : mm_mlV RX9 209 (yX2_tireBy, cX2_tireBy, 3, none) 2 2 := ⟨by decide, rfl, ⟨(tw3 212 rfl rfl), mc_X2_tireBy⟩, ms_X2_tireBy⟩
theorem ml_RX9_213 : mm_mlV RX9 213 (yX0_putBack, cX0_putBack, 2, none) 0 1 := ⟨by decide, rfl, ⟨(tw3 217 rfl rfl), mc_X0_putBack⟩, ms_X0_putBack⟩
theorem ml_RX9_216 : mm_mlV RX9 216 (yX9_everybody, cX9_everybody, 1, (some .int)) 9 0 := ⟨by decide, rfl, ⟨(tw3 238 rfl rfl), mc_X9_everybody⟩, ms_X9_everybody⟩
theorem ml_RX9_220 : mm_mlV RX9 220 (yX2_sought, cX2_sought, 3, (some .int)) 2 0 := ⟨by decide, rfl, ⟨(tw4 2 rfl rfl), mc_X2_sought⟩, ms_X2_sought⟩
theorem ml_RX9_223 : mm_mlS RX9 223 (yJ6_bitCount_0f7a4, cJ6_bitCount_0f7a4, 1, (some .int)) 1 := ⟨⟨(tw4 7 rfl rfl), mc_J6_bitCount_0f7a4⟩, ms_J6_bitCount_0f7a4⟩
theorem ml_RX9_234 : mm_mlV RX9 234 (yX9_fillRow, cX9_fillRow, 8, none) 9 1 := ⟨by decide, rfl, ⟨(tw4 9 rfl rfl), mc_X9_fillRow⟩, ms_X9_fillRow⟩
theorem ml_RX9_237 : mm_mlV RX9 237 (yX9_leastOther, cX9_leastOther, 7, (some .int)) 9 3 := ⟨by decide, rfl, ⟨(tw4 13 rfl rfl), mc_X9_leastOther⟩, ms_X9_leastOther⟩
theorem ml_RX9_241 : mm_mlV RX9 241 (yX9_suffice, cX9_suffice, 5, (some .boolean)) 9 2 := ⟨by decide, rfl, ⟨(tw4 25 rfl rfl), mc_X9_suffice⟩, ms_X9_suffice⟩
theorem ml_RX9_251 : mm_mlV RX9 251 (yX2_figure, cX2_figure, 3, (some .int)) 2 0 := ⟨by decide, rfl, ⟨(tw4 42 rfl rfl), mc_X2_figure⟩, ms_X2_figure⟩
theorem ml_RX9_254 : mm_mlV RX9 254 (yX9_playAll, cX9_playAll, 6, none) 9 3 := ⟨by decide, rfl, ⟨(tw4 54 rfl rfl), mc_X9_playAll⟩, ms_X9_playAll⟩
theorem ml_RX9_257 : mm_mlV RX9 257 (yX9_isSettled, cX9_isSettled, 6, (some .boolean)) 9 4 := ⟨by decide, rfl, ⟨(tw4 61 rfl rfl), mc_X9_isSettled⟩, ms_X9_isSettled⟩
theorem ml_RX9_264 : mm_mlS RX9 264 (yX9_gameAt, cX9_gameAt, 2, (some .int)) 2 := ⟨⟨(tw4 58 rfl rfl), mc_X9_gameAt⟩, ms_X9_gameAt⟩
theorem ml_RX9_267 : mm_mlV RX9 267 (yX3_add, cX3_add, 4, none) 3 3 := ⟨by decide, rfl, ⟨(tw4 73 rfl rfl), mc_X3_add⟩, ms_X3_add⟩
theorem ml_RX9_269 : mm_mlV RX9 269 (yX9_fittingRules, cX9_fittingRules, 5, (some .int)) 9 0 := ⟨by decide, rfl, ⟨(tw4 81 rfl rfl), mc_X9_fittingRules⟩, ms_X9_fittingRules⟩
theorem ml_RX9_272 : mm_mlS RX9 272 (yJ6_numberOfTrailingZeros_0f7a4, cJ6_numberOfTrailingZeros_0f7a4, 2, (some .int)) 1 := ⟨⟨(tw4 95 rfl rfl), mc_J6_numberOfTrailingZeros_0f7a4⟩, ms_J6_numberOfTrailingZeros_0f7a4⟩
theorem ml_RX9_275 : mm_mlV RX9 275 (yX9_mostAlike, cX9_mostAlike, 8, (some .int)) 9 2 := ⟨by decide, rfl, ⟨(tw4 103 rfl rfl), mc_X9_mostAlike⟩, ms_X9_mostAlike⟩
theorem ml_RX9_278 : mm_mlV RX9 278 (yX7_beginAsTold, cX7_beginAsTold, 2, none) 7 1 := ⟨by decide, rfl, ⟨(tw4 85 rfl rfl), mc_X7_beginAsTold⟩, ms_X7_beginAsTold⟩
theorem ml_RX9_281 : mm_mlV RX9 281 (yX3_areSo, cX3_areSo, 5, (some .boolean)) 3 2 := ⟨by decide, rfl, ⟨(tw4 91 rfl rfl), mc_X3_areSo⟩, ms_X3_areSo⟩
theorem ml_RX9_286 : mm_mlV RX9 286 (yX7_drawStranger, cX7_drawStranger, 2, none) 7 1 := ⟨by decide, rfl, ⟨(tw4 115 rfl rfl), mc_X7_drawStranger⟩, ms_X7_drawStranger⟩
theorem ml_RX9_289 : mm_mlV RX9 289 (yX8_take, cX8_take, 2, none) 8 1 := ⟨by decide, rfl, ⟨(tw4 131 rfl rfl), mc_X8_take⟩, ms_X8_take⟩
theorem ml_RX9_292 : mm_mlV RX9 292 (yX7_begin, cX7_begin, 3, none) 7 2 := ⟨by decide, rfl, ⟨(tw3 127 rfl rfl), mc_X7_begin⟩, ms_X7_begin⟩
theorem ml_RX9_94 : mm_mlV RX9 94 (yX6_addNumber, cX6_addNumber, 3, none) 6 1 := ⟨by decide, rfl, ⟨(tw2 119 rfl rfl), mc_X6_addNumber⟩, ms_X6_addNumber⟩
theorem mx_RX0_29 : mm_min RX0 29 := ⟨(tw3 120 rfl rfl), (tw3 121 rfl rfl), (tw1 18 rfl rfl), (tw3 122 rfl rfl)⟩
theorem mx_RX0_35 : mm_max RX0 35 := ⟨(tw3 221 rfl rfl), (tw3 175 rfl rfl), (tw1 18 rfl rfl), (tw3 176 rfl rfl)⟩
theorem mx_RX2_47 : mm_min RX2 47 := ⟨(tw3 181 rfl rfl), (tw3 121 rfl rfl), (tw1 18 rfl rfl), (tw3 122 rfl rfl)⟩
theorem mx_RX7_164 : mm_max RX7 164 := ⟨(tw3 174 rfl rfl), (tw3 175 rfl rfl), (tw1 18 rfl rfl), (tw3 176 rfl rfl)⟩
theorem mx_RX9_229 : mm_min RX9 229 := ⟨(tw4 8 rfl rfl), (tw3 121 rfl rfl), (tw1 18 rfl rfl), (tw3 122 rfl rfl)⟩
theorem mx_RX9_248 : mm_max RX9 248 := ⟨(tw4 37 rfl rfl), (tw3 175 rfl rfl), (tw1 18 rfl rfl), (tw3 176 rfl rfl)⟩
