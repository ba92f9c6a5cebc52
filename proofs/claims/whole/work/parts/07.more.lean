theorem ka_1 {a c n : Nat} (h : mm_K a = (c, n)) : (mm_K a).1 = c := by rw [h]
theorem ka_2 {a c : Nat} (h : (mm_K a).1 = c) : mm_K a = (c, (mm_K a).2) := by rw [← h]
theorem vin_lt {j : Int32} {n : Nat} (h : vp_in j n) : j.toNatClampNeg < n := Nat.lt_of_not_le (fun q => h (Or.inr q))
theorem k_walk {a : Nat} (h : (mm_K a).1 = 7) : 200 = a := by
  have h1 : a < 240 := mm_K_lt (by rw [h]; decide)
  have h2 : ∀ a, a < 240 → (mm_K a).1 = 7 → 200 = a := by decide +kernel
  exact h2 a h1 h
def gb {ρ : Type} (r : Int32) (x : Option ρ) : Option ρ := if r = 0 ∨ r = 1 then x else none
theorem gb_some {ρ : Type} {r : Int32} {x : Option ρ} {z : ρ} (h : gb r x = some z) : (r = 0 ∨ r = 1) ∧ x = some z := by
  unfold gb at h
  by_cases hc : r = 0 ∨ r = 1
  · rw [if_pos hc] at h
    exact ⟨hc, h⟩
  · rw [if_neg hc] at h
    cases h
def gq {ρ : Type} (r : Int32) (x : Option ρ) : Option ρ := if r = 0 then none else x
theorem gq_some {ρ : Type} {r : Int32} {x : Option ρ} {z : ρ} (h : gq r x = some z) : ¬ r = 0 ∧ x = some z := by
  unfold gq at h
  by_cases hc : r = 0
  · rw [if_pos hc] at h
    cases h
  · rw [if_neg hc] at h
    exact ⟨hc, h⟩
def gl {ρ : Type} (r : Int64) (x : Option ρ) : Option ρ := if r = 0 then none else x
theorem gl_some {ρ : Type} {r : Int64} {x : Option ρ} {z : ρ} (h : gl r x = some z) : ¬ r = 0 ∧ x = some z := by
  unfold gl at h
  by_cases hc : r = 0
  · rw [if_pos hc] at h
    cases h
  · rw [if_neg hc] at h
    exact ⟨hc, h⟩
theorem nb1 {r : Int32} (h : r = 0 ∨ r = 1) : narrow .boolean (.int r) = .int r := by rcases h with rfl | rfl <;> rfl
theorem nb2 {r : Int32} (h : r = 0 ∨ r = 1) : fits .boolean (.int r) = true := by rcases h with rfl | rfl <;> rfl
def mm_cp (own : String) (idx : Nat) : Prop := Cond.methodLink own idx arraycopyName ∈ mm_T ∧ Cond.native arraycopyName ∈ mm_T ∧ Cond.static arraycopyName ∈ mm_T ∧ Cond.initialized "java/lang/System" ∈ mm_T
def mu_c (μ : mm_M) (a sp b dp n : Nat) : mm_M := (fun i j => if i = b then va_cpy (mi μ a) (mi μ b) sp dp n j else mi μ i j, μ.2)
theorem mu_c_ne {g : mm_G} {μ : mm_M} {a sp b dp n : Nat} {i : Nat} (h : i ≠ b) : mm_cell g (mu_c μ a sp b dp n) i = mm_cell g μ i := by
  have h1 : mi (mu_c μ a sp b dp n) i = mi μ i := by funext j; simp [mu_c, mi, h]
  have h2 : mm_fv g (mu_c μ a sp b dp n) i = mm_fv g μ i := by funext j; unfold mm_fv; rw [h1]; rfl
  unfold mm_cell mm_ar
  rw [h1, h2]
  rfl
section EVK
variable {g : mm_G} {d : Nat} {y : mm_Y} {k n0 pc : Nat} {L : mm_L} {st : List Value} {μ : mm_M} {Q : Value → mm_M → Prop}
theorem e_ldcw {idx : Nat} {v : Int32} (hd : decode y.2.1 pc = .ok (.ldc_w idx, 3)) (hc : Cond.constant y.1.cls idx v ∈ mm_T) (hk : mm_EV g d y k n0 (pc + 3) L (.int v :: st) μ Q) : mm_EV g d y k n0 pc L st μ Q := by
  intro p e s m args below meth cc R Z cx hr H locs ls hH hS hl
  exact lv_ldcw cx.1 cx.2.1 cx.2.2.2.1 (cx.2.2.2.2.1 _ hc) hd (hk p e s m args below meth cc R Z cx hr H locs ls hH hS hl)
theorem e_copy {idx a b na nb : Nat} {sp dp n : Int32} (hd : decode y.2.1 pc = .ok (.invokestatic idx, 3)) (hl0 : mm_cp y.1.cls idx) (hKa : mm_K a = (12, na)) (hKb : mm_K b = (12, nb)) (ha : a < mn μ) (hb : b < mn μ) (h1 : ¬ sp < 0) (h2 : ¬ dp < 0) (h3 : ¬ n < 0) (h4 : sp.toNatClampNeg + n.toNatClampNeg ≤ na) (h5 : dp.toNatClampNeg + n.toNatClampNeg ≤ nb) (hw : (st.map fun v => v.category).sum ≤ 8)
    (hk : mm_EV g d y k n0 (pc + 3) L st (mu_c μ a sp.toNatClampNeg b dp.toNatClampNeg n.toNatClampNeg) Q) : mm_EV g d y k n0 pc L (.int n :: .int dp :: .ref b :: .int sp :: .ref a :: st) μ Q := by
  intro p e s m args below meth cc R Z cx hr H locs ls hH hS hl
  have hw' : ((st.map (mm_e g)).map fun v => v.category).sum ≤ 8 := by
    rw [List.map_map]
    refine le_of_eq_of_le (congrArg List.sum (List.map_congr_left (fun v _ => mm_cat g v))) hw
  have hrm := cx.2.2.2.2.2.2.2.2.1
  have hnw : nativeFrameWords "java/lang/System" "arraycopy" 5 ≤ 60 := by decide +kernel
  refine va_copyi (D := mg_D g) (A := mm_A g) (ty := .int) cx.1 cx.2.1 (cx.2.2.1.trans hl.1.symm) cx.2.2.2.1 (cx.2.2.2.2.1 _ hl0.1) (cx.2.2.2.2.1 _ hl0.2.1) (cx.2.2.2.2.1 _ hl0.2.2.1) (cx.2.2.2.2.1 _ hl0.2.2.2) cx.2.2.2.2.2.1 hH (mm_wsD g μ) hS a b 1 1 (c0 := mg_cy g 12) (c1 := mg_cy g 12) (n0 := na) (n1 := nb) (f := mi μ a) (g := mi μ b)
    ((mm_ws_get g μ ha).trans (by rw [mm_arr hKa (by decide)]; unfold mm_ar; rw [hKa]; rfl)) ((mm_ws_get g μ hb).trans (by rw [mm_arr hKb (by decide)]; unfold mm_ar; rw [hKb]; rfl)) rfl rfl rfl h1 h2 h3 h4 h5 (fun _ _ => rfl) (by omega) (by omega) hd (fun H1 locs1 q1 q2 q3 => hk p e s m args below meth cc R Z cx hr H1 locs1 ls ?_ q3 hl)
  refine cast (congrArg (fun w => va_P (mg_D g) vwCl w H1) ?_) q1
  rw [← mm_ws_set g μ (mu_c μ a sp.toNatClampNeg b dp.toNatClampNeg n.toNatClampNeg) (a := b) rfl (fun i hi => mu_c_ne hi), mm_arr hKb (by decide)]
  unfold mm_ar
  rw [hKb]
  congr 4
  simp [mu_c, mi, funext_iff]
theorem s_copy {σ τ : mm_S} {v : Value} {idx a b na nb : Nat} {sp dp n : Int32} (hd : decode y.2.1 pc = .ok (.invokestatic idx, 3)) (hl0 : mm_cp y.1.cls idx) (hKa : mm_K a = (12, na)) (hKb : mm_K b = (12, nb)) (h1 : ¬ sp < 0) (h2 : ¬ dp < 0) (h3 : ¬ n < 0) (h4 : sp.toNatClampNeg + n.toNatClampNeg ≤ na) (h5 : dp.toNatClampNeg + n.toNatClampNeg ≤ nb) (hw : (st.map fun v => v.category).sum ≤ 8)
    (hk : SVk k n0 g d y (pc + 3) L st (su_c σ a sp.toNatClampNeg b dp.toNatClampNeg n.toNatClampNeg) v τ) : SVk k n0 g d y pc L (.int n :: .int dp :: .ref b :: .int sp :: .ref a :: st) σ v τ := e_copy hd hl0 hKa hKb (mm_K_lt (by rw [hKa]; show 12 < 18; decide)) (mm_K_lt (by rw [hKb]; show 12 < 18; decide)) h1 h2 h3 h4 h5 hw hk
theorem s_nms {τ : mm_S} {v : Value} {x s2 : mm_S} (hx : x = s2) (hk : SVk k n0 g d y pc L st x v τ) : SVk k n0 g d y pc L st s2 v τ := by subst hx; exact hk
end EVK
def mm_max (own : String) (idx : Nat) : Prop := Cond.methodLink own idx Lib.Math.max.name ∈ mm_T ∧ Cond.static Lib.Math.max.name ∈ mm_T ∧ Cond.initialized "java/lang/Math" ∈ mm_T ∧ Cond.code Lib.Math.max.name Lib.Math.max.code 2 (some .int) ∈ mm_T
theorem e_mmax {g : mm_G} {d : Nat} {y : mm_Y} {k n0 pc : Nat} {L : mm_L} {st : List Value} {μ : mm_M} {Q : Value → mm_M → Prop} {idx : Nat} {x z : Int32} (hd : decode y.2.1 pc = .ok (.invokestatic idx, 3)) (hl0 : mm_max y.1.cls idx) (hw : (st.map fun v => v.category).sum ≤ 8) (hn0 : n0 ≤ mn μ) (hn1 : mn μ ≤ n0 + k) (hk : mm_EV g d y k n0 (pc + 3) L (.int (if x < z then z else x) :: st) μ Q) : mm_EV g d y k n0 pc L (.int z :: .int x :: st) μ Q := by
  intro p e s m args below meth cc R Z cx hr H locs ls hH hS hl
  have hw' : ((st.map (mm_e g)).map fun v => v.category).sum ≤ 8 := by
    rw [List.map_map]
    refine le_of_eq_of_le (congrArg List.sum (List.map_congr_left (fun v _ => mm_cat g v))) hw
  have hrm := cx.2.2.2.2.2.2.2.2.1
  have hcs := cx.2.2.2.2.2.2.2.2.2.1
  have h1 := mm_zs_mono hn1
  exact va_mmax cx.1 cx.2.1 (cx.2.2.1.trans hl.1.symm) cx.2.2.2.1 (cx.2.2.2.2.1 _ hl0.1) (cx.2.2.2.2.1 _ hl0.2.1) (cx.2.2.2.2.1 _ hl0.2.2.1) (cx.2.2.2.2.1 _ hl0.2.2.2) (by omega) (by omega) (by omega) (by omega) hd (hk p e s m args below meth cc R Z cx hr H locs ls hH hS hl)
theorem s_mmax {g : mm_G} {d : Nat} {y : mm_Y} {k n0 pc : Nat} {L : mm_L} {st : List Value} {σ τ : mm_S} {v : Value} {idx : Nat} {x z : Int32} (hd : decode y.2.1 pc = .ok (.invokestatic idx, 3)) (hl0 : mm_max y.1.cls idx) (hw : (st.map fun v => v.category).sum ≤ 8) (hk : SVk k n0 g d y (pc + 3) L (.int (if x < z then z else x) :: st) σ v τ) (hc : n0 ≤ 240 ∧ 240 ≤ n0 + k := by decide) : SVk k n0 g d y pc L (.int z :: .int x :: st) σ v τ := e_mmax hd hl0 hw hc.1 hc.2 hk
def mm_min (own : String) (idx : Nat) : Prop := Cond.methodLink own idx Lib.Math.min.name ∈ mm_T ∧ Cond.static Lib.Math.min.name ∈ mm_T ∧ Cond.initialized "java/lang/Math" ∈ mm_T ∧ Cond.code Lib.Math.min.name Lib.Math.min.code 2 (some .int) ∈ mm_T
theorem e_mmin {g : mm_G} {d : Nat} {y : mm_Y} {k n0 pc : Nat} {L : mm_L} {st : List Value} {μ : mm_M} {Q : Value → mm_M → Prop} {idx : Nat} {x z : Int32} (hd : decode y.2.1 pc = .ok (.invokestatic idx, 3)) (hl0 : mm_min y.1.cls idx) (hw : (st.map fun v => v.category).sum ≤ 8) (hn0 : n0 ≤ mn μ) (hn1 : mn μ ≤ n0 + k) (hk : mm_EV g d y k n0 (pc + 3) L (.int (if z < x then z else x) :: st) μ Q) : mm_EV g d y k n0 pc L (.int z :: .int x :: st) μ Q := by
  intro p e s m args below meth cc R Z cx hr H locs ls hH hS hl
  have hw' : ((st.map (mm_e g)).map fun v => v.category).sum ≤ 8 := by
    rw [List.map_map]
    refine le_of_eq_of_le (congrArg List.sum (List.map_congr_left (fun v _ => mm_cat g v))) hw
  have hrm := cx.2.2.2.2.2.2.2.2.1
  have hcs := cx.2.2.2.2.2.2.2.2.2.1
  have h1 := mm_zs_mono hn1
  exact va_mmin cx.1 cx.2.1 (cx.2.2.1.trans hl.1.symm) cx.2.2.2.1 (cx.2.2.2.2.1 _ hl0.1) (cx.2.2.2.2.1 _ hl0.2.1) (cx.2.2.2.2.1 _ hl0.2.2.1) (cx.2.2.2.2.1 _ hl0.2.2.2) (by omega) (by omega) (by omega) (by omega) hd (hk p e s m args below meth cc R Z cx hr H locs ls hH hS hl)
theorem s_mmin {g : mm_G} {d : Nat} {y : mm_Y} {k n0 pc : Nat} {L : mm_L} {st : List Value} {σ τ : mm_S} {v : Value} {idx : Nat} {x z : Int32} (hd : decode y.2.1 pc = .ok (.invokestatic idx, 3)) (hl0 : mm_min y.1.cls idx) (hw : (st.map fun v => v.category).sum ≤ 8) (hk : SVk k n0 g d y (pc + 3) L (.int (if z < x then z else x) :: st) σ v τ) (hc : n0 ≤ 240 ∧ 240 ≤ n0 + k := by decide) : SVk k n0 g d y pc L (.int z :: .int x :: st) σ v τ := e_mmin hd hl0 hw hc.1 hc.2 hk
theorem s_gw {g : mm_G} {d : Nat} {y : mm_Y} {k n0 pc : Nat} {L : mm_L} {st : List Value} {σ τ : mm_S} {v : Value} {idx a : Nat} (hd : decode y.2.1 pc = .ok (.getfield idx, 3)) (hf : mm_fl y.1.cls idx 7 2 2) (hK : (mm_K a).1 = 7) (hk : SVk k n0 g d y (pc + 3) L (.ref σ.2.2 :: st) σ v τ) : SVk k n0 g d y pc L (.ref a :: st) σ v τ := by
  obtain rfl := k_walk hK
  exact s_getw hd hf hk
theorem s_pw {g : mm_G} {d : Nat} {y : mm_Y} {k n0 pc : Nat} {L : mm_L} {st : List Value} {σ τ : mm_S} {v : Value} {idx a x : Nat} (hd : decode y.2.1 pc = .ok (.putfield idx, 3)) (hf : mm_fl y.1.cls idx 7 2 2) (hK : (mm_K a).1 = 7) (hk : SVk k n0 g d y (pc + 3) L st (su_w σ x) v τ) : SVk k n0 g d y pc L (.ref x :: .ref a :: st) σ v τ := by
  obtain rfl := k_walk hK
  exact s_putw hd hf hk
