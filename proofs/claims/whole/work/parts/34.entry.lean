theorem nl_RL_7 : mm_nl RL 7 9 := ⟨by decide, (tw1 20 rfl rfl), (tw1 21 rfl rfl), (tw1 1 rfl rfl)⟩
theorem nl_RL_10 : mm_nl RL 10 10 := ⟨by decide, (tw4 146 rfl rfl), (tw4 147 rfl rfl), (tw1 12 rfl rfl)⟩
theorem mi_RL_9 : mm_mlI RL 9 (yX9_init, cX9_init, 2, none) 0 := ⟨⟨(tw1 22 rfl rfl), (tw1 1 rfl rfl), (tw1 24 rfl rfl), ⟨by decide +kernel, by decide +kernel, by decide +kernel⟩, by decide⟩, rfl, (tw1 23 rfl rfl), rfl⟩
theorem mi_RL_12 : mm_mlI RL 12 (yX10_init, cX10_init, 1, none) 0 := ⟨⟨(tw4 148 rfl rfl), (tw1 12 rfl rfl), (tw4 150 rfl rfl), ⟨by decide +kernel, by decide +kernel, by decide +kernel⟩, by decide⟩, rfl, (tw4 149 rfl rfl), rfl⟩
theorem arrV_eq {cA : ClassId} {N : Nat} {f h : Nat → Value} (e : ∀ j, j < N → f j = h j) : arrV cA N f = arrV cA N h := by
  unfold arrV
  congr 1
  congr 1
  funext j
  exact e j.1 j.2
theorem gen_H {g : mm_G} {H : Heap} {um : mm_M} {w : Nat} (hun : mn um = 240) (hr1 : ∀ i, i < 240 → (mm_K i).1 < 11 → ∀ k, k < mm_nf (mm_K i).1 → mm_fk (mm_K i).1 k = 2 → mr um i k = mm_Rst w i k) (hr2 : ∀ i, i < 240 → 15 ≤ (mm_K i).1 → ∀ k, k < (mm_K i).2 → mr um i k = mm_Rst w i k) (h : mm_H g um H) : mm_H g (mm_st (mi um, mj um, w)) H := by
  intro i q hq
  have hi : i < 240 := by
    have := (List.getElem?_eq_some_iff.mp hq).1
    rw [mm_ws_len] at this
    exact this
  rw [mm_ws_get g (mm_st (mi um, mj um, w)) hi] at hq
  cases hq
  have h1 := h i _ (mm_ws_get g um (by rw [hun]; exact hi))
  by_cases hk : (mm_K i).1 < 11
  · have e1 : mm_cell g (mm_st (mi um, mj um, w)) i = mm_cell g um i := by
      rw [mm_obj rfl hk, mm_obj rfl hk]
      congr 2
      refine List.map_congr_left (fun k hkk => ?_)
      have hkk := List.mem_range.mp hkk
      unfold mm_fv
      by_cases q0 : mm_fk (mm_K i).1 k = 0
      · rw [if_pos q0, if_pos q0]; rfl
      · rw [if_neg q0, if_neg q0]
        by_cases q1 : mm_fk (mm_K i).1 k = 1
        · rw [if_pos q1, if_pos q1]; rfl
        · rw [if_neg q1, if_neg q1]
          have q2 : mm_fk (mm_K i).1 k = 2 := by
            have : ∀ c, c < 11 → ∀ k, k < mm_nf c → mm_fk c k = 0 ∨ mm_fk c k = 1 ∨ mm_fk c k = 2 := by decide +kernel
            rcases this _ hk k hkk with r | r | r
            · exact absurd r q0
            · exact absurd r q1
            · exact r
          rw [hr1 i hi hk k hkk q2]
          rfl
    rw [e1]
    exact h1
  · by_cases h15 : 15 ≤ (mm_K i).1
    · have e0 := mm_arr (g := g) (μ := mm_st (mi um, mj um, w)) (a := i) (c := (mm_K i).1) (n := (mm_K i).2) rfl hk
      have e1 := mm_arr (g := g) (μ := um) (a := i) (c := (mm_K i).1) (n := (mm_K i).2) rfl hk
      rw [e1] at h1
      rw [e0]
      have h13 : ¬ (mm_K i).1 = 13 := by omega
      unfold mm_ar at h1 ⊢
      rw [if_neg h13, if_pos h15] at h1 ⊢
      have h2 : H[mg_b g + i]? = some (vp_cell _ _) := h1
      show H[mg_b g + i]? = some (vp_cell _ _)
      rw [h2, vp_cell_q, vp_cell_q]
      congr 1
      refine arrV_eq (fun j hj => ?_)
      rw [hr2 i hi h15 j hj]
      rfl
    · have e1 : mm_cell g (mm_st (mi um, mj um, w)) i = mm_cell g um i := by
        unfold mm_cell mm_ar
        rw [if_neg hk, if_neg hk, if_neg h15, if_neg h15]
        rfl
      rw [e1]
      exact h1
theorem e_conv {g : mm_G} {d : Nat} {y : mm_Y} {k n0 pc : Nat} {L : mm_L} {st : List Value} {μ μ' : mm_M} {Q : Value → mm_M → Prop} (hn : mn μ = mn μ') (hc : ∀ H, mm_H g μ H → mm_H g μ' H) (hk : mm_EV g d y k n0 pc L st μ' Q) : mm_EV g d y k n0 pc L st μ Q := by
  intro p e s m args below meth cc R Z cx hr H locs ls hH hS hl
  rw [hn]
  exact hk p e s m args below meth cc R Z cx hr H locs ls (hc H hH) hS hl
theorem gen_entry {g : mm_G} (d : Nat) {τ : mm_S} {ux um : mm_M} {w : Nat} (hfx : fD_X9_init 0 (mu_n mu_0) = some ux) (hxn : mn ux = 214) (hfm : fD_X10_init 214 (mu_n ux) = some um) (hun : mn um = 240) (hr1 : ∀ i, i < 240 → (mm_K i).1 < 11 → ∀ k, k < mm_nf (mm_K i).1 → mm_fk (mm_K i).1 k = 2 → mr um i k = mm_Rst w i k) (hr2 : ∀ i, i < 240 → 15 ≤ (mm_K i).1 → ∀ k, k < (mm_K i).2 → mr um i k = mm_Rst w i k) (hp : f_L_law_18 (mg_L g) (mg_xs g) 0 214 0 (mi um, mj um, w) = some (1, τ)) : mm_EV g (d + 46) yy_L_law 240 0 0 [(0, .retAddr 0)] [] mu_0 (sv_Q (.int 1) τ) := by
  refine e_new dL_law_0 nl_RL_7 (c := 9) rfl (Nat.le_refl _) (by decide) ?_
  refine e_dup dL_law_3 rfl ?_
  refine e_callIv (d := d + 45) (kz := 213) (av := []) dL_law_4 mi_RL_9 rfl rfl (vD_X9_init (d + 42) hfx) (Nat.zero_le _) (by decide) (Nat.le_of_ble_eq_true rfl) (fun u hu _ => ?_)
  rw [hu.2]
  refine e_astore_n (L' := [(0, .retAddr 0), (1, .ref 0)]) dL_law_7 rfl (by decide) rfl ?_
  refine e_new dL_law_8 nl_RL_10 (c := 10) (by rw [hxn]; rfl) (Nat.zero_le _) (by rw [hxn]; decide) ?_
  rw [hxn]
  refine e_dup dL_law_11 rfl ?_
  refine e_callIv (d := d + 45) (kz := 25) (av := []) dL_law_12 mi_RL_12 rfl rfl (vD_X10_init (d + 44) hfm) (Nat.zero_le _) (by show mn ux + 1 + 25 ≤ _; rw [hxn]; decide) (Nat.le_of_ble_eq_true rfl) (fun u hu _ => ?_)
  rw [hu.2]
  refine e_astore_n (L' := [(0, .retAddr 0), (1, .ref 0), (2, .ref 214)]) dL_law_15 rfl (by decide) rfl ?_
  refine e_iconst (v := (0 : Int32)) dL_law_16 (by decide) ?_
  refine e_istore_n (L' := [(0, .retAddr 0), (1, .ref 0), (2, .ref 214), (3, .int 0)]) dL_law_17 rfl (by decide) rfl ?_
  refine e_conv (μ' := mm_st (mi um, mj um, w)) hun (fun H h => gen_H hun hr1 hr2 h) ?_
  exact v_L_law_18 d rfl rfl hp
theorem law_entry {g : mm_G} (d : Nat) {τ : mm_S} (hp : f_L_law_18 (mg_L g) (mg_xs g) 0 214 0 ini_s = some (1, τ)) : mm_EV g (d + 46) yy_L_law 240 0 0 [(0, .retAddr 0)] [] mu_0 (sv_Q (.int 1) τ) := gen_entry d ini_x_eq ini_x_n ini_m_eq ini_m_n ini_r1 ini_r2 hp
