def mm_C (c : Nat) : vw_C := vwCl.getD c ("", TX0, 0)
def mm_ty (c k : Nat) : FieldType := match c with
  | 0 => tyX0 k
  | 1 => tyX1 k
  | 2 => tyX2 k
  | 3 => tyX3 k
  | 4 => tyX4 k
  | 5 => tyX5 k
  | 6 => tyX6 k
  | 7 => tyX7 k
  | 8 => tyX8 k
  | 9 => tyX9 k
  | 10 => tyX10 k
  | _ => .int
def mm_clok (c : Nat) : Prop := vwCl[c]? = some (mm_C c) ∧ (mm_C c).2.2 = mm_nf c ∧ (∀ w ∈ u_ws (mm_C c).1 (mm_C c).2.1 (mm_C c).2.2, w ∈ mm_T) ∧ (∀ k, k < (mm_C c).2.2 → parseFieldDescriptor ((mm_C c).2.1 k).2.2.1 = some (mm_ty c k)) ∧ (∀ a, a < (mm_C c).2.2 → ∀ b, b < (mm_C c).2.2 → a ≠ b → ((mm_C c).2.1 a).2.1 ≠ ((mm_C c).2.1 b).2.1)
theorem mm_clok0 : mm_clok 0 := ⟨rfl, rfl, by decide +kernel, tyX0_ok, nmX0⟩
theorem mm_clok1 : mm_clok 1 := ⟨rfl, rfl, by decide +kernel, tyX1_ok, nmX1⟩
theorem mm_clok2 : mm_clok 2 := ⟨rfl, rfl, by decide +kernel, tyX2_ok, nmX2⟩
theorem mm_clok3 : mm_clok 3 := ⟨rfl, rfl, by decide +kernel, tyX3_ok, nmX3⟩
theorem mm_clok4 : mm_clok 4 := ⟨rfl, rfl, by decide +kernel, tyX4_ok, nmX4⟩
theorem mm_clok5 : mm_clok 5 := ⟨rfl, rfl, by decide +kernel, tyX5_ok, nmX5⟩
theorem mm_clok6 : mm_clok 6 := ⟨rfl, rfl, by decide +kernel, tyX6_ok, nmX6⟩
theorem mm_clok7 : mm_clok 7 := ⟨rfl, rfl, by decide +kernel, tyX7_ok, nmX7⟩
theorem mm_clok8 : mm_clok 8 := ⟨rfl, rfl, by decide +kernel, tyX8_ok, nmX8⟩
theorem mm_clok9 : mm_clok 9 := ⟨rfl, rfl, by decide +kernel, tyX9_ok, nmX9⟩
theorem mm_clok10 : mm_clok 10 := ⟨rfl, rfl, by decide +kernel, tyX10_ok, nmX10⟩
theorem mm_clok_all : ∀ c, c < 11 → mm_clok c := fun c h => match c, h with
  | 0, _ => mm_clok0
  | 1, _ => mm_clok1
  | 2, _ => mm_clok2
  | 3, _ => mm_clok3
  | 4, _ => mm_clok4
  | 5, _ => mm_clok5
  | 6, _ => mm_clok6
  | 7, _ => mm_clok7
  | 8, _ => mm_clok8
  | 9, _ => mm_clok9
  | 10, _ => mm_clok10
  | n + 11, h => absurd h (by omega)
/-- entry idx of own's file is field f of class c, of kind t -/
def mm_fl (own : String) (idx c f t : Nat) : Prop := c < 11 ∧ f < mm_nf c ∧ mm_fk c f = t ∧ Cond.fieldLink own idx ((mm_C c).2.1 f).1 ((mm_C c).2.1 f).2.1 ((mm_C c).2.1 f).2.2.1 ∈ mm_T
def mu_i (μ : mm_M) (a k : Nat) (x : Int32) : mm_M := (fun i j => if i = a ∧ j = k then x else mi μ i j, μ.2)
def mu_j (μ : mm_M) (a k : Nat) (x : Int64) : mm_M := (μ.1, fun i j => if i = a ∧ j = k then x else mj μ i j, μ.2.2)
def mu_r (μ : mm_M) (a k : Nat) (x : Option Nat) : mm_M := (μ.1, μ.2.1, fun i j => if i = a ∧ j = k then x else mr μ i j, μ.2.2.2)
theorem mm_ws_get (g : mm_G) (μ : mm_M) {i : Nat} (h : i < mn μ) : (mm_ws g μ)[i]? = some (mg_b g + i, mm_cell g μ i) := by
  unfold mm_ws
  rw [List.getElem?_map, List.getElem?_range h]
  rfl
theorem mm_ws_len (g : mm_G) (μ : mm_M) : (mm_ws g μ).length = mn μ := by simp [mm_ws]
theorem mm_ws_set (g : mm_G) (μ μ' : mm_M) {a : Nat} (hn : mn μ' = mn μ) (hc : ∀ i, i ≠ a → mm_cell g μ' i = mm_cell g μ i) : (mm_ws g μ).set a (mg_b g + a, mm_cell g μ' a) = mm_ws g μ' := by
  apply List.ext_getElem?
  intro i
  by_cases hi : i < mn μ
  · rw [mm_ws_get g μ' (hn ▸ hi)]
    by_cases ha : i = a
    · subst ha
      rw [List.getElem?_set_self (by rw [mm_ws_len]; exact hi)]
    · rw [List.getElem?_set_ne (Ne.symm ha), mm_ws_get g μ hi, hc i ha]
  · rw [List.getElem?_eq_none (by rw [List.length_set, mm_ws_len]; omega), List.getElem?_eq_none (by rw [mm_ws_len, hn]; omega)]
theorem mm_wsD (g : mm_G) (μ : mm_M) : va_D (mm_A g) (mm_ws g μ) := by
  have key : ∀ (k : Nat) (q : Nat × va_E), (mm_ws g μ)[k]? = some q → q.1 = mg_b g + k := by
    intro k q hk
    have hl : k < mn μ := by
      rw [← mm_ws_len g μ]
      exact (List.getElem?_eq_some_iff.mp hk).1
    rw [mm_ws_get g μ hl] at hk
    cases hk
    rfl
  exact ⟨fun i j x y hi hj h => by have := key i x hi; have := key j y hj; omega, fun k q hk => by have := key k q hk; unfold mm_A; omega⟩
theorem mu_i_ne {g : mm_G} {μ : mm_M} {a k : Nat} {x : Int32} {i : Nat} (h : i ≠ a) : mm_cell g (mu_i μ a k x) i = mm_cell g μ i := by
  have h1 : mi (mu_i μ a k x) i = mi μ i := by funext j; simp [mu_i, mi, h]
  have h2 : mm_fv g (mu_i μ a k x) i = mm_fv g μ i := by funext j; unfold mm_fv; rw [h1]; rfl
  unfold mm_cell mm_ar
  rw [h1, h2]
  rfl
theorem mu_j_ne {g : mm_G} {μ : mm_M} {a k : Nat} {x : Int64} {i : Nat} (h : i ≠ a) : mm_cell g (mu_j μ a k x) i = mm_cell g μ i := by
  have h1 : mj (mu_j μ a k x) i = mj μ i := by funext j; simp [mu_j, mj, h]
  have h2 : mm_fv g (mu_j μ a k x) i = mm_fv g μ i := by funext j; unfold mm_fv; rw [h1]; rfl
  unfold mm_cell mm_ar
  rw [h1, h2]
  rfl
theorem mu_r_ne {g : mm_G} {μ : mm_M} {a k : Nat} {x : Option Nat} {i : Nat} (h : i ≠ a) : mm_cell g (mu_r μ a k x) i = mm_cell g μ i := by
  have h1 : mr (mu_r μ a k x) i = mr μ i := by funext j; simp [mu_r, mr, h]
  have h2 : mm_fv g (mu_r μ a k x) i = mm_fv g μ i := by funext j; unfold mm_fv; rw [h1]; rfl
  unfold mm_cell mm_ar
  rw [h1, h2]
  rfl
theorem mm_set_map {n f : Nat} {u v : Nat → Value} {w : Value} (hw : v f = w) (ho : ∀ j, j ≠ f → v j = u j) : ((List.range n).map u).set f w = (List.range n).map v := by
  apply List.ext_getElem?
  intro i
  by_cases hf : i = f
  · subst hf
    by_cases hi : i < n
    · rw [List.getElem?_set_self (by simpa using hi), List.getElem?_map, List.getElem?_range hi]
      simp [hw]
    · rw [List.getElem?_eq_none (by simp; omega), List.getElem?_eq_none (by simp; omega)]
  · rw [List.getElem?_set_ne (Ne.symm hf), List.getElem?_map, List.getElem?_map]
    by_cases hi : i < n
    · rw [List.getElem?_range hi]
      simp [ho i hf]
    · rw [List.getElem?_eq_none (by simp; omega)]
      rfl
theorem mm_obj {g : mm_G} {μ : mm_M} {a c : Nat} (hK : (mm_K a).1 = c) (hc : c < 11) : mm_cell g μ a = .inr (c, (List.range (mm_nf c)).map (mm_fv g μ a)) := by
  unfold mm_cell
  rw [hK, if_pos hc]
theorem mm_arr {g : mm_G} {μ : mm_M} {a c n : Nat} (hK : mm_K a = (c, n)) (hc : ¬ c < 11) : mm_cell g μ a = .inl (mg_cy g c, n, mm_ar g μ a) := by
  unfold mm_cell
  rw [hK, if_neg hc]
theorem mm_fs {g : mm_G} {μ : mm_M} {a n f : Nat} (h : f < n) : ((List.range n).map (mm_fv g μ a))[f]? = some (mm_fv g μ a f) := by
  rw [List.getElem?_map, List.getElem?_range h]
  rfl
theorem mm_fv0 {g : mm_G} {μ : mm_M} {a c f : Nat} (hK : (mm_K a).1 = c) (h : mm_fk c f = 0) : mm_fv g μ a f = .int (mi μ a f) := by unfold mm_fv; rw [hK, if_pos h]
theorem mm_fv1 {g : mm_G} {μ : mm_M} {a c f : Nat} (hK : (mm_K a).1 = c) (h : mm_fk c f = 1) : mm_fv g μ a f = .long (mj μ a f) := by unfold mm_fv; rw [hK, if_neg (by rw [h]; decide), if_pos h]
theorem mm_fv2 {g : mm_G} {μ : mm_M} {a c f : Nat} (hK : (mm_K a).1 = c) (h : mm_fk c f = 2) : mm_fv g μ a f = va_rf ((mr μ a f).map (mg_b g + ·)) := by unfold mm_fv; rw [hK, if_neg (by rw [h]; decide), if_neg (by rw [h]; decide)]
section EVH
variable {g : mm_G} {d : Nat} {y : mm_Y} {k n0 pc : Nat} {L : mm_L} {st : List Value} {μ : mm_M} {Q : Value → mm_M → Prop}
theorem e_geti {idx c f a : Nat}  (hd : decode y.2.1 pc = .ok (.getfield idx, 3)) (hf : mm_fl y.1.cls idx c f 0) (hK : (mm_K a).1 = c) (ha : a < mn μ)  (hk : mm_EV g d y k n0 (pc + 3) L (.int (mi μ a f) :: st) μ Q) : mm_EV g d y k n0 pc L (.ref a :: st) μ Q := by
  intro p e s m args below meth cc R Z cx hr H locs ls hH hS hl
  obtain ⟨f1, f2, f3, f4⟩ := hf
  obtain ⟨q1, q2, q3, q4, q5⟩ := mm_clok_all c f1
  refine va_get (v := mm_e g (.int (mi μ a f))) (D := mg_D g) (ci := c) (C := (mm_C c).1) (T := (mm_C c).2.1) (N := (mm_C c).2.2) cx.1 cx.2.1 cx.2.2.2.2.1 q3 cx.2.2.2.1 cx.2.2.2.2.2.1 hH a ((mm_ws_get g μ ha).trans (by rw [mm_obj hK f1])) q1 f (by rw [q2]; exact f2) (cx.2.2.2.2.1 _ f4) (fun _ h => h) ((mm_fs f2).trans (congrArg some ?_)) hd (hk p e s m args below meth cc R Z cx hr H locs ls hH hS hl)
  rw [mm_fv0 hK f3]
  rfl
theorem e_getj {idx c f a : Nat}  (hd : decode y.2.1 pc = .ok (.getfield idx, 3)) (hf : mm_fl y.1.cls idx c f 1) (hK : (mm_K a).1 = c) (ha : a < mn μ)  (hk : mm_EV g d y k n0 (pc + 3) L (.long (mj μ a f) :: st) μ Q) : mm_EV g d y k n0 pc L (.ref a :: st) μ Q := by
  intro p e s m args below meth cc R Z cx hr H locs ls hH hS hl
  obtain ⟨f1, f2, f3, f4⟩ := hf
  obtain ⟨q1, q2, q3, q4, q5⟩ := mm_clok_all c f1
  refine va_get (v := mm_e g (.long (mj μ a f))) (D := mg_D g) (ci := c) (C := (mm_C c).1) (T := (mm_C c).2.1) (N := (mm_C c).2.2) cx.1 cx.2.1 cx.2.2.2.2.1 q3 cx.2.2.2.1 cx.2.2.2.2.2.1 hH a ((mm_ws_get g μ ha).trans (by rw [mm_obj hK f1])) q1 f (by rw [q2]; exact f2) (cx.2.2.2.2.1 _ f4) (fun _ h => h) ((mm_fs f2).trans (congrArg some ?_)) hd (hk p e s m args below meth cc R Z cx hr H locs ls hH hS hl)
  rw [mm_fv1 hK f3]
  rfl
theorem e_getr {idx c f a : Nat} {r : Nat} (hd : decode y.2.1 pc = .ok (.getfield idx, 3)) (hf : mm_fl y.1.cls idx c f 2) (hK : (mm_K a).1 = c) (ha : a < mn μ) (hv : mr μ a f = some r) (hk : mm_EV g d y k n0 (pc + 3) L (.ref r :: st) μ Q) : mm_EV g d y k n0 pc L (.ref a :: st) μ Q := by
  intro p e s m args below meth cc R Z cx hr H locs ls hH hS hl
  obtain ⟨f1, f2, f3, f4⟩ := hf
  obtain ⟨q1, q2, q3, q4, q5⟩ := mm_clok_all c f1
  refine va_get (v := mm_e g (.ref r)) (D := mg_D g) (ci := c) (C := (mm_C c).1) (T := (mm_C c).2.1) (N := (mm_C c).2.2) cx.1 cx.2.1 cx.2.2.2.2.1 q3 cx.2.2.2.1 cx.2.2.2.2.2.1 hH a ((mm_ws_get g μ ha).trans (by rw [mm_obj hK f1])) q1 f (by rw [q2]; exact f2) (cx.2.2.2.2.1 _ f4) (fun _ h => h) ((mm_fs f2).trans (congrArg some ?_)) hd (hk p e s m args below meth cc R Z cx hr H locs ls hH hS hl)
  rw [mm_fv2 hK f3]
  rw [hv]
  rfl
theorem e_puti {idx c f a : Nat} {x : Int32} (hd : decode y.2.1 pc = .ok (.putfield idx, 3)) (hf : mm_fl y.1.cls idx c f 0) (hK : (mm_K a).1 = c) (ha : a < mn μ) (hfin : ((mm_C c).2.1 f).2.2.2 = false) (hn : narrow (mm_ty c f) (.int x) = .int x) (hfit : fits (mm_ty c f) (.int x) = true) (hk : mm_EV g d y k n0 (pc + 3) L st (mu_i μ a f x) Q) : mm_EV g d y k n0 pc L (.int x :: .ref a :: st) μ Q := by
  intro p e s m args below meth cc R Z cx hr H locs ls hH hS hl
  obtain ⟨f1, f2, f3, f4⟩ := hf
  obtain ⟨q1, q2, q3, q4, q5⟩ := mm_clok_all c f1
  refine va_put (v := mm_e g (.int x)) (D := mg_D g) (A := mm_A g) (ty := mm_ty c f) (ci := c) (C := (mm_C c).1) (T := (mm_C c).2.1) (N := (mm_C c).2.2) cx.1 cx.2.1 cx.2.2.2.2.1 q3 (mm_ty c) q4 q5 cx.2.2.2.1 cx.2.2.2.2.2.1 hH (mm_wsD g μ) hS a ((mm_ws_get g μ ha).trans (by rw [mm_obj hK f1])) q1 f (by rw [q2]; exact f2) (cx.2.2.2.2.1 _ f4) (fun _ h => h) hfin (q4 f (by rw [q2]; exact f2)) hn hfit (by simpa using f2) hd (fun H1 locs1 h1 h2 h3 => hk p e s m args below meth cc R Z cx hr H1 locs1 ls ?_ h3 hl)
  · have e1 : (mm_ws g μ).set a (mg_b g + a, .inr (c, ((List.range (mm_nf c)).map (mm_fv g μ a)).set f (mm_e g (.int x)))) = mm_ws g (mu_i μ a f x) := by
      rw [← mm_ws_set g μ (mu_i μ a f x) (a := a) rfl (fun i hi => mu_i_ne hi), mm_obj hK f1]
      congr 4
      refine mm_set_map ?_ (fun j hj => ?_)
      · rw [mm_fv0 hK f3]
        simp [mu_i, mi, mj, mr, mm_e, va_rf]
      · unfold mm_fv
        simp [mu_i, mi, mj, mr, hj]
    rw [e1] at h1
    exact h1
theorem e_putiF {idx c f a : Nat} {x : Int32} (hd : decode y.2.1 pc = .ok (.putfield idx, 3)) (hf : mm_fl y.1.cls idx c f 0) (hK : (mm_K a).1 = c) (ha : a < mn μ) (hfin : ((mm_C c).2.1 f).2.2.2 = true) (hin : y.1.name = "<init>") (hdc : ((mm_C c).2.1 f).1 = y.1.cls) (hn : narrow (mm_ty c f) (.int x) = .int x) (hfit : fits (mm_ty c f) (.int x) = true) (hk : mm_EV g d y k n0 (pc + 3) L st (mu_i μ a f x) Q) : mm_EV g d y k n0 pc L (.int x :: .ref a :: st) μ Q := by
  intro p e s m args below meth cc R Z cx hr H locs ls hH hS hl
  obtain ⟨f1, f2, f3, f4⟩ := hf
  obtain ⟨q1, q2, q3, q4, q5⟩ := mm_clok_all c f1
  refine va_putF (v := mm_e g (.int x)) (D := mg_D g) (A := mm_A g) (ty := mm_ty c f) (ci := c) (C := (mm_C c).1) (T := (mm_C c).2.1) (N := (mm_C c).2.2) cx.1 cx.2.1 cx.2.2.2.2.1 q3 (mm_ty c) q4 q5 cx.2.2.2.1 cx.2.2.2.2.2.1 hH (mm_wsD g μ) hS a ((mm_ws_get g μ ha).trans (by rw [mm_obj hK f1])) q1 f (by rw [q2]; exact f2) (cx.2.2.2.2.1 _ f4) (fun _ h => h) hfin (cx.2.2.2.2.2.2.2.1.1 hin) hdc (q4 f (by rw [q2]; exact f2)) hn hfit (by simpa using f2) hd (fun H1 locs1 h1 h2 h3 => hk p e s m args below meth cc R Z cx hr H1 locs1 ls ?_ h3 hl)
  · have e1 : (mm_ws g μ).set a (mg_b g + a, .inr (c, ((List.range (mm_nf c)).map (mm_fv g μ a)).set f (mm_e g (.int x)))) = mm_ws g (mu_i μ a f x) := by
      rw [← mm_ws_set g μ (mu_i μ a f x) (a := a) rfl (fun i hi => mu_i_ne hi), mm_obj hK f1]
      congr 4
      refine mm_set_map ?_ (fun j hj => ?_)
      · rw [mm_fv0 hK f3]
        simp [mu_i, mi, mj, mr, mm_e, va_rf]
      · unfold mm_fv
        simp [mu_i, mi, mj, mr, hj]
    rw [e1] at h1
    exact h1
theorem e_putj {idx c f a : Nat} {x : Int64} (hd : decode y.2.1 pc = .ok (.putfield idx, 3)) (hf : mm_fl y.1.cls idx c f 1) (hK : (mm_K a).1 = c) (ha : a < mn μ) (hfin : ((mm_C c).2.1 f).2.2.2 = false) (hn : mm_ty c f = .long) (hk : mm_EV g d y k n0 (pc + 3) L st (mu_j μ a f x) Q) : mm_EV g d y k n0 pc L (.long x :: .ref a :: st) μ Q := by
  intro p e s m args below meth cc R Z cx hr H locs ls hH hS hl
  obtain ⟨f1, f2, f3, f4⟩ := hf
  obtain ⟨q1, q2, q3, q4, q5⟩ := mm_clok_all c f1
  refine va_put (v := mm_e g (.long x)) (D := mg_D g) (A := mm_A g) (ty := mm_ty c f) (ci := c) (C := (mm_C c).1) (T := (mm_C c).2.1) (N := (mm_C c).2.2) cx.1 cx.2.1 cx.2.2.2.2.1 q3 (mm_ty c) q4 q5 cx.2.2.2.1 cx.2.2.2.2.2.1 hH (mm_wsD g μ) hS a ((mm_ws_get g μ ha).trans (by rw [mm_obj hK f1])) q1 f (by rw [q2]; exact f2) (cx.2.2.2.2.1 _ f4) (fun _ h => h) hfin (q4 f (by rw [q2]; exact f2)) (by rw [hn]; rfl) (by rw [hn]; rfl) (by simpa using f2) hd (fun H1 locs1 h1 h2 h3 => hk p e s m args below meth cc R Z cx hr H1 locs1 ls ?_ h3 hl)
  · have e1 : (mm_ws g μ).set a (mg_b g + a, .inr (c, ((List.range (mm_nf c)).map (mm_fv g μ a)).set f (mm_e g (.long x)))) = mm_ws g (mu_j μ a f x) := by
      rw [← mm_ws_set g μ (mu_j μ a f x) (a := a) rfl (fun i hi => mu_j_ne hi), mm_obj hK f1]
      congr 4
      refine mm_set_map ?_ (fun j hj => ?_)
      · rw [mm_fv1 hK f3]
        simp [mu_j, mi, mj, mr, mm_e, va_rf]
      · unfold mm_fv
        simp [mu_j, mi, mj, mr, hj]
    rw [e1] at h1
    exact h1
theorem e_putjF {idx c f a : Nat} {x : Int64} (hd : decode y.2.1 pc = .ok (.putfield idx, 3)) (hf : mm_fl y.1.cls idx c f 1) (hK : (mm_K a).1 = c) (ha : a < mn μ) (hfin : ((mm_C c).2.1 f).2.2.2 = true) (hin : y.1.name = "<init>") (hdc : ((mm_C c).2.1 f).1 = y.1.cls) (hn : mm_ty c f = .long) (hk : mm_EV g d y k n0 (pc + 3) L st (mu_j μ a f x) Q) : mm_EV g d y k n0 pc L (.long x :: .ref a :: st) μ Q := by
  intro p e s m args below meth cc R Z cx hr H locs ls hH hS hl
  obtain ⟨f1, f2, f3, f4⟩ := hf
  obtain ⟨q1, q2, q3, q4, q5⟩ := mm_clok_all c f1
  refine va_putF (v := mm_e g (.long x)) (D := mg_D g) (A := mm_A g) (ty := mm_ty c f) (ci := c) (C := (mm_C c).1) (T := (mm_C c).2.1) (N := (mm_C c).2.2) cx.1 cx.2.1 cx.2.2.2.2.1 q3 (mm_ty c) q4 q5 cx.2.2.2.1 cx.2.2.2.2.2.1 hH (mm_wsD g μ) hS a ((mm_ws_get g μ ha).trans (by rw [mm_obj hK f1])) q1 f (by rw [q2]; exact f2) (cx.2.2.2.2.1 _ f4) (fun _ h => h) hfin (cx.2.2.2.2.2.2.2.1.1 hin) hdc (q4 f (by rw [q2]; exact f2)) (by rw [hn]; rfl) (by rw [hn]; rfl) (by simpa using f2) hd (fun H1 locs1 h1 h2 h3 => hk p e s m args below meth cc R Z cx hr H1 locs1 ls ?_ h3 hl)
  · have e1 : (mm_ws g μ).set a (mg_b g + a, .inr (c, ((List.range (mm_nf c)).map (mm_fv g μ a)).set f (mm_e g (.long x)))) = mm_ws g (mu_j μ a f x) := by
      rw [← mm_ws_set g μ (mu_j μ a f x) (a := a) rfl (fun i hi => mu_j_ne hi), mm_obj hK f1]
      congr 4
      refine mm_set_map ?_ (fun j hj => ?_)
      · rw [mm_fv1 hK f3]
        simp [mu_j, mi, mj, mr, mm_e, va_rf]
      · unfold mm_fv
        simp [mu_j, mi, mj, mr, hj]
    rw [e1] at h1
    exact h1
theorem e_putr {idx c f a : Nat} {x : Nat} (hd : decode y.2.1 pc = .ok (.putfield idx, 3)) (hf : mm_fl y.1.cls idx c f 2) (hK : (mm_K a).1 = c) (ha : a < mn μ) (hfin : ((mm_C c).2.1 f).2.2.2 = false) (hn : narrow (mm_ty c f) (.ref 0) = .ref 0 ∧ ∀ q, narrow (mm_ty c f) (.ref q) = .ref q ∧ fits (mm_ty c f) (.ref q) = true) (hk : mm_EV g d y k n0 (pc + 3) L st (mu_r μ a f (some x)) Q) : mm_EV g d y k n0 pc L (.ref x :: .ref a :: st) μ Q := by
  intro p e s m args below meth cc R Z cx hr H locs ls hH hS hl
  obtain ⟨f1, f2, f3, f4⟩ := hf
  obtain ⟨q1, q2, q3, q4, q5⟩ := mm_clok_all c f1
  refine va_put (v := mm_e g (.ref x)) (D := mg_D g) (A := mm_A g) (ty := mm_ty c f) (ci := c) (C := (mm_C c).1) (T := (mm_C c).2.1) (N := (mm_C c).2.2) cx.1 cx.2.1 cx.2.2.2.2.1 q3 (mm_ty c) q4 q5 cx.2.2.2.1 cx.2.2.2.2.2.1 hH (mm_wsD g μ) hS a ((mm_ws_get g μ ha).trans (by rw [mm_obj hK f1])) q1 f (by rw [q2]; exact f2) (cx.2.2.2.2.1 _ f4) (fun _ h => h) hfin (q4 f (by rw [q2]; exact f2)) (hn.2 _).1 (hn.2 _).2 (by simpa using f2) hd (fun H1 locs1 h1 h2 h3 => hk p e s m args below meth cc R Z cx hr H1 locs1 ls ?_ h3 hl)
  · have e1 : (mm_ws g μ).set a (mg_b g + a, .inr (c, ((List.range (mm_nf c)).map (mm_fv g μ a)).set f (mm_e g (.ref x)))) = mm_ws g (mu_r μ a f (some x)) := by
      rw [← mm_ws_set g μ (mu_r μ a f (some x)) (a := a) rfl (fun i hi => mu_r_ne hi), mm_obj hK f1]
      congr 4
      refine mm_set_map ?_ (fun j hj => ?_)
      · rw [mm_fv2 hK f3]
        simp [mu_r, mi, mj, mr, mm_e, va_rf]
      · unfold mm_fv
        simp [mu_r, mi, mj, mr, hj]
    rw [e1] at h1
    exact h1
theorem e_putrF {idx c f a : Nat} {x : Nat} (hd : decode y.2.1 pc = .ok (.putfield idx, 3)) (hf : mm_fl y.1.cls idx c f 2) (hK : (mm_K a).1 = c) (ha : a < mn μ) (hfin : ((mm_C c).2.1 f).2.2.2 = true) (hin : y.1.name = "<init>") (hdc : ((mm_C c).2.1 f).1 = y.1.cls) (hn : narrow (mm_ty c f) (.ref 0) = .ref 0 ∧ ∀ q, narrow (mm_ty c f) (.ref q) = .ref q ∧ fits (mm_ty c f) (.ref q) = true) (hk : mm_EV g d y k n0 (pc + 3) L st (mu_r μ a f (some x)) Q) : mm_EV g d y k n0 pc L (.ref x :: .ref a :: st) μ Q := by
  intro p e s m args below meth cc R Z cx hr H locs ls hH hS hl
  obtain ⟨f1, f2, f3, f4⟩ := hf
  obtain ⟨q1, q2, q3, q4, q5⟩ := mm_clok_all c f1
  refine va_putF (v := mm_e g (.ref x)) (D := mg_D g) (A := mm_A g) (ty := mm_ty c f) (ci := c) (C := (mm_C c).1) (T := (mm_C c).2.1) (N := (mm_C c).2.2) cx.1 cx.2.1 cx.2.2.2.2.1 q3 (mm_ty c) q4 q5 cx.2.2.2.1 cx.2.2.2.2.2.1 hH (mm_wsD g μ) hS a ((mm_ws_get g μ ha).trans (by rw [mm_obj hK f1])) q1 f (by rw [q2]; exact f2) (cx.2.2.2.2.1 _ f4) (fun _ h => h) hfin (cx.2.2.2.2.2.2.2.1.1 hin) hdc (q4 f (by rw [q2]; exact f2)) (hn.2 _).1 (hn.2 _).2 (by simpa using f2) hd (fun H1 locs1 h1 h2 h3 => hk p e s m args below meth cc R Z cx hr H1 locs1 ls ?_ h3 hl)
  · have e1 : (mm_ws g μ).set a (mg_b g + a, .inr (c, ((List.range (mm_nf c)).map (mm_fv g μ a)).set f (mm_e g (.ref x)))) = mm_ws g (mu_r μ a f (some x)) := by
      rw [← mm_ws_set g μ (mu_r μ a f (some x)) (a := a) rfl (fun i hi => mu_r_ne hi), mm_obj hK f1]
      congr 4
      refine mm_set_map ?_ (fun j hj => ?_)
      · rw [mm_fv2 hK f3]
        simp [mu_r, mi, mj, mr, mm_e, va_rf]
      · unfold mm_fv
        simp [mu_r, mi, mj, mr, hj]
    rw [e1] at h1
    exact h1
theorem e_iald {a n : Nat} {j : Int32}  (hd : decode y.2.1 pc = .ok (.iaload, 1)) (hK : mm_K a = (12, n)) (ha : a < mn μ) (hin : vp_in j n)  (hk : mm_EV g d y k n0 (pc + 1) L (.int (mi μ a j.toNatClampNeg) :: st) μ Q) : mm_EV g d y k n0 pc L (.int j :: .ref a :: st) μ Q := by
  intro p e s m args below meth cc R Z cx hr H locs ls hH hS hl
  refine va_iald (D := mg_D g) cx.1 cx.2.1 cx.2.2.2.2.2.1 hH a 1 (cA := mg_cy g 12) (n := n) (f := mi μ a) ((mm_ws_get g μ ha).trans (by rw [mm_arr hK (by decide)]; unfold mm_ar; rw [hK]; rfl)) rfl hin hd ?_
  have := hk p e s m args below meth cc R Z cx hr H locs ls hH hS hl
  exact this
theorem e_bald {a n : Nat} {j : Int32}  (hd : decode y.2.1 pc = .ok (.baload, 1)) (hK : mm_K a = (11, n)) (ha : a < mn μ) (hin : vp_in j n)  (hk : mm_EV g d y k n0 (pc + 1) L (.int (mi μ a j.toNatClampNeg) :: st) μ Q) : mm_EV g d y k n0 pc L (.int j :: .ref a :: st) μ Q := by
  intro p e s m args below meth cc R Z cx hr H locs ls hH hS hl
  refine va_bald (D := mg_D g) cx.1 cx.2.1 cx.2.2.2.2.2.1 hH a 0 (cA := mg_cy g 11) (n := n) (f := mi μ a) ((mm_ws_get g μ ha).trans (by rw [mm_arr hK (by decide)]; unfold mm_ar; rw [hK]; rfl)) rfl hin hd ?_
  have := hk p e s m args below meth cc R Z cx hr H locs ls hH hS hl
  exact this
theorem e_zald {a n : Nat} {j : Int32}  (hd : decode y.2.1 pc = .ok (.baload, 1)) (hK : mm_K a = (14, n)) (ha : a < mn μ) (hin : vp_in j n)  (hk : mm_EV g d y k n0 (pc + 1) L (.int (mi μ a j.toNatClampNeg) :: st) μ Q) : mm_EV g d y k n0 pc L (.int j :: .ref a :: st) μ Q := by
  intro p e s m args below meth cc R Z cx hr H locs ls hH hS hl
  refine va_zald (D := mg_D g) cx.1 cx.2.1 cx.2.2.2.2.2.1 hH a 3 (cA := mg_cy g 14) (n := n) (f := mi μ a) ((mm_ws_get g μ ha).trans (by rw [mm_arr hK (by decide)]; unfold mm_ar; rw [hK]; rfl)) rfl hin hd ?_
  have := hk p e s m args below meth cc R Z cx hr H locs ls hH hS hl
  exact this
theorem e_lald {a n : Nat} {j : Int32}  (hd : decode y.2.1 pc = .ok (.laload, 1)) (hK : mm_K a = (13, n)) (ha : a < mn μ) (hin : vp_in j n)  (hk : mm_EV g d y k n0 (pc + 1) L (.long (mj μ a j.toNatClampNeg) :: st) μ Q) : mm_EV g d y k n0 pc L (.int j :: .ref a :: st) μ Q := by
  intro p e s m args below meth cc R Z cx hr H locs ls hH hS hl
  refine va_lald (D := mg_D g) cx.1 cx.2.1 cx.2.2.2.2.2.1 hH a 2 (cA := mg_cy g 13) (n := n) (f := mj μ a) ((mm_ws_get g μ ha).trans (by rw [mm_arr hK (by decide)]; unfold mm_ar; rw [hK]; rfl)) rfl hin hd ?_
  have := hk p e s m args below meth cc R Z cx hr H locs ls hH hS hl
  exact this
theorem e_aald15 {a n : Nat} {j : Int32} {r : Nat} (hd : decode y.2.1 pc = .ok (.aaload, 1)) (hK : mm_K a = (15, n)) (ha : a < mn μ) (hin : vp_in j n) (hv : mr μ a j.toNatClampNeg = some r) (hk : mm_EV g d y k n0 (pc + 1) L (.ref r :: st) μ Q) : mm_EV g d y k n0 pc L (.int j :: .ref a :: st) μ Q := by
  intro p e s m args below meth cc R Z cx hr H locs ls hH hS hl
  refine va_aldq (D := mg_D g) cx.1 cx.2.1 cx.2.2.2.2.2.1 hH a 4 (cA := mg_cy g 15) (n := n) (f := fun i => (mr μ a i).map (mg_b g + ·)) ((mm_ws_get g μ ha).trans (by rw [mm_arr hK (by decide)]; unfold mm_ar; rw [hK]; rfl)) rfl hin hd ?_
  have := hk p e s m args below meth cc R Z cx hr H locs ls hH hS hl
  simp only [hv, Option.map_some, va_rf]
  exact this
theorem e_aald16 {a n : Nat} {j : Int32} {r : Nat} (hd : decode y.2.1 pc = .ok (.aaload, 1)) (hK : mm_K a = (16, n)) (ha : a < mn μ) (hin : vp_in j n) (hv : mr μ a j.toNatClampNeg = some r) (hk : mm_EV g d y k n0 (pc + 1) L (.ref r :: st) μ Q) : mm_EV g d y k n0 pc L (.int j :: .ref a :: st) μ Q := by
  intro p e s m args below meth cc R Z cx hr H locs ls hH hS hl
  refine va_aldq (D := mg_D g) cx.1 cx.2.1 cx.2.2.2.2.2.1 hH a 5 (cA := mg_cy g 16) (n := n) (f := fun i => (mr μ a i).map (mg_b g + ·)) ((mm_ws_get g μ ha).trans (by rw [mm_arr hK (by decide)]; unfold mm_ar; rw [hK]; rfl)) rfl hin hd ?_
  have := hk p e s m args below meth cc R Z cx hr H locs ls hH hS hl
  simp only [hv, Option.map_some, va_rf]
  exact this
theorem e_aald17 {a n : Nat} {j : Int32} {r : Nat} (hd : decode y.2.1 pc = .ok (.aaload, 1)) (hK : mm_K a = (17, n)) (ha : a < mn μ) (hin : vp_in j n) (hv : mr μ a j.toNatClampNeg = some r) (hk : mm_EV g d y k n0 (pc + 1) L (.ref r :: st) μ Q) : mm_EV g d y k n0 pc L (.int j :: .ref a :: st) μ Q := by
  intro p e s m args below meth cc R Z cx hr H locs ls hH hS hl
  refine va_aldq (D := mg_D g) cx.1 cx.2.1 cx.2.2.2.2.2.1 hH a 6 (cA := mg_cy g 17) (n := n) (f := fun i => (mr μ a i).map (mg_b g + ·)) ((mm_ws_get g μ ha).trans (by rw [mm_arr hK (by decide)]; unfold mm_ar; rw [hK]; rfl)) rfl hin hd ?_
  have := hk p e s m args below meth cc R Z cx hr H locs ls hH hS hl
  simp only [hv, Option.map_some, va_rf]
  exact this
theorem e_iast {a n : Nat} {j : Int32} {x : Int32} (hd : decode y.2.1 pc = .ok (.iastore, 1)) (hK : mm_K a = (12, n)) (ha : a < mn μ) (hin : vp_in j n) (hk : mm_EV g d y k n0 (pc + 1) L st (mu_i μ a j.toNatClampNeg (x)) Q) : mm_EV g d y k n0 pc L (.int x :: .int j :: .ref a :: st) μ Q := by
  intro p e s m args below meth cc R Z cx hr H locs ls hH hS hl
  refine va_iast (D := mg_D g) cx.1 cx.2.1 cx.2.2.2.2.2.1 hH (mm_wsD g μ) hS a 1 (cA := mg_cy g 12) (n := n) (f := mi μ a) ((mm_ws_get g μ ha).trans (by rw [mm_arr hK (by decide)]; unfold mm_ar; rw [hK]; rfl)) rfl hin hd (fun H1 locs1 h1 h2 h3 => hk p e s m args below meth cc R Z cx hr H1 locs1 ls ?_ h3 hl)
  refine cast (congrArg (fun w => va_P (mg_D g) vwCl w H1) ?_) h1
  rw [← mm_ws_set g μ (mu_i μ a j.toNatClampNeg (x)) (a := a) rfl (fun i hi => mu_i_ne hi), mm_arr hK (by decide)]
  unfold mm_ar
  rw [hK]
  congr 4
  simp [mu_i, mi, mj, upd, vp_updL, va_up, funext_iff]
theorem e_bast {a n : Nat} {j : Int32} {x : Int32} (hd : decode y.2.1 pc = .ok (.bastore, 1)) (hK : mm_K a = (11, n)) (ha : a < mn μ) (hin : vp_in j n) (hk : mm_EV g d y k n0 (pc + 1) L st (mu_i μ a j.toNatClampNeg (vp_nar .byte x)) Q) : mm_EV g d y k n0 pc L (.int x :: .int j :: .ref a :: st) μ Q := by
  intro p e s m args below meth cc R Z cx hr H locs ls hH hS hl
  refine va_bast (D := mg_D g) cx.1 cx.2.1 cx.2.2.2.2.2.1 hH (mm_wsD g μ) hS a 0 (cA := mg_cy g 11) (n := n) (f := mi μ a) ((mm_ws_get g μ ha).trans (by rw [mm_arr hK (by decide)]; unfold mm_ar; rw [hK]; rfl)) rfl hin hd (fun H1 locs1 h1 h2 h3 => hk p e s m args below meth cc R Z cx hr H1 locs1 ls ?_ h3 hl)
  refine cast (congrArg (fun w => va_P (mg_D g) vwCl w H1) ?_) h1
  rw [← mm_ws_set g μ (mu_i μ a j.toNatClampNeg (vp_nar .byte x)) (a := a) rfl (fun i hi => mu_i_ne hi), mm_arr hK (by decide)]
  unfold mm_ar
  rw [hK]
  congr 4
  simp [mu_i, mi, mj, upd, vp_updL, va_up, funext_iff]
theorem e_zast {a n : Nat} {j : Int32} {x : Int32} (hd : decode y.2.1 pc = .ok (.bastore, 1)) (hK : mm_K a = (14, n)) (ha : a < mn μ) (hin : vp_in j n) (hk : mm_EV g d y k n0 (pc + 1) L st (mu_i μ a j.toNatClampNeg (vp_nar .boolean x)) Q) : mm_EV g d y k n0 pc L (.int x :: .int j :: .ref a :: st) μ Q := by
  intro p e s m args below meth cc R Z cx hr H locs ls hH hS hl
  refine va_zast (D := mg_D g) cx.1 cx.2.1 cx.2.2.2.2.2.1 hH (mm_wsD g μ) hS a 3 (cA := mg_cy g 14) (n := n) (f := mi μ a) ((mm_ws_get g μ ha).trans (by rw [mm_arr hK (by decide)]; unfold mm_ar; rw [hK]; rfl)) rfl hin hd (fun H1 locs1 h1 h2 h3 => hk p e s m args below meth cc R Z cx hr H1 locs1 ls ?_ h3 hl)
  refine cast (congrArg (fun w => va_P (mg_D g) vwCl w H1) ?_) h1
  rw [← mm_ws_set g μ (mu_i μ a j.toNatClampNeg (vp_nar .boolean x)) (a := a) rfl (fun i hi => mu_i_ne hi), mm_arr hK (by decide)]
  unfold mm_ar
  rw [hK]
  congr 4
  simp [mu_i, mi, mj, upd, vp_updL, va_up, funext_iff]
theorem e_last {a n : Nat} {j : Int32} {x : Int64} (hd : decode y.2.1 pc = .ok (.lastore, 1)) (hK : mm_K a = (13, n)) (ha : a < mn μ) (hin : vp_in j n) (hk : mm_EV g d y k n0 (pc + 1) L st (mu_j μ a j.toNatClampNeg (x)) Q) : mm_EV g d y k n0 pc L (.long x :: .int j :: .ref a :: st) μ Q := by
  intro p e s m args below meth cc R Z cx hr H locs ls hH hS hl
  refine va_last (D := mg_D g) cx.1 cx.2.1 cx.2.2.2.2.2.1 hH (mm_wsD g μ) hS a 2 (cA := mg_cy g 13) (n := n) (f := mj μ a) ((mm_ws_get g μ ha).trans (by rw [mm_arr hK (by decide)]; unfold mm_ar; rw [hK]; rfl)) rfl hin hd (fun H1 locs1 h1 h2 h3 => hk p e s m args below meth cc R Z cx hr H1 locs1 ls ?_ h3 hl)
  refine cast (congrArg (fun w => va_P (mg_D g) vwCl w H1) ?_) h1
  rw [← mm_ws_set g μ (mu_j μ a j.toNatClampNeg (x)) (a := a) rfl (fun i hi => mu_j_ne hi), mm_arr hK (by decide)]
  unfold mm_ar
  rw [hK]
  congr 4
  simp [mu_j, mi, mj, upd, vp_updL, va_up, funext_iff]
theorem e_alen {a c n : Nat} {v : Int32} (hd : decode y.2.1 pc = .ok (.arraylength, 1)) (hK : mm_K a = (c, n)) (hc : 11 ≤ c ∧ c < 18) (ha : a < mn μ) (hv : Int32.ofNat n = v) (hk : mm_EV g d y k n0 (pc + 1) L (.int v :: st) μ Q) : mm_EV g d y k n0 pc L (.ref a :: st) μ Q := by
  intro p e s m args below meth cc R Z cx hr H locs ls hH hS hl
  have ht : ∃ ty, (mm_tys g)[c - 11]? = some (mg_cy g c, ty) := by
    obtain ⟨h1, h2⟩ := hc
    have : c = 11 ∨ c = 12 ∨ c = 13 ∨ c = 14 ∨ c = 15 ∨ c = 16 ∨ c = 17 := by omega
    rcases this with rfl | rfl | rfl | rfl | rfl | rfl | rfl <;> exact ⟨_, rfl⟩
  obtain ⟨ty, ht⟩ := ht
  exact va_alen (D := mg_D g) cx.1 cx.2.1 cx.2.2.2.2.2.1 hH a (c - 11) (cA := mg_cy g c) (x := (n, mm_ar g μ a)) ((mm_ws_get g μ ha).trans (by rw [mm_arr hK (by omega)])) ht hv hd (hk p e s m args below meth cc R Z cx hr H locs ls hH hS hl)
theorem e_ldc {idx : Nat} {v : Int32} (hd : decode y.2.1 pc = .ok (.ldc idx, 2)) (hc : Cond.constant y.1.cls idx v ∈ mm_T) (hk : mm_EV g d y k n0 (pc + 2) L (.int v :: st) μ Q) : mm_EV g d y k n0 pc L st μ Q := by
  intro p e s m args below meth cc R Z cx hr H locs ls hH hS hl
  exact lv_ldc cx.1 cx.2.1 cx.2.2.2.1 (cx.2.2.2.2.1 _ hc) hd (hk p e s m args below meth cc R Z cx hr H locs ls hH hS hl)
theorem e_ldc2 {idx : Nat} {v : Int64} (hd : decode y.2.1 pc = .ok (.ldc2_w idx, 3)) (hc : Cond.constantLong y.1.cls idx v ∈ mm_T) (hk : mm_EV g d y k n0 (pc + 3) L (.long v :: st) μ Q) : mm_EV g d y k n0 pc L st μ Q := by
  intro p e s m args below meth cc R Z cx hr H locs ls hH hS hl
  exact lv_ldc2 cx.1 cx.2.1 cx.2.2.2.1 (cx.2.2.2.2.1 _ hc) hd (hk p e s m args below meth cc R Z cx hr H locs ls hH hS hl)
theorem e_tabOut (t : Nat) {dflt lo hi : Int} {offs : Array Int} {len : Nat} {x : Int32} (hd : decode y.2.1 pc = .ok (.tableswitch dflt lo hi offs, len)) (h : x.toInt < lo ∨ hi < x.toInt) (ht : (pc : Int) + dflt = (t : Int)) (hk : mm_EV g d y k n0 t L st μ Q) : mm_EV g d y k n0 pc L (.int x :: st) μ Q := by
  intro p e s m args below meth cc R Z cx hr H locs ls hH hS hl
  exact lv_tableOut cx.1 cx.2.1 hd h ht (hk p e s m args below meth cc R Z cx hr H locs ls hH hS hl)
theorem e_tabIn (t : Nat) {dflt lo hi off : Int} {offs : Array Int} {len : Nat} {x : Int32} (hd : decode y.2.1 pc = .ok (.tableswitch dflt lo hi offs, len)) (h1 : ¬ x.toInt < lo) (h2 : ¬ hi < x.toInt) (ho : offs[(x.toInt - lo).toNat]? = some off) (ht : (pc : Int) + off = (t : Int)) (hk : mm_EV g d y k n0 t L st μ Q) : mm_EV g d y k n0 pc L (.int x :: st) μ Q := by
  intro p e s m args below meth cc R Z cx hr H locs ls hH hS hl
  exact lv_tableIn cx.1 cx.2.1 hd h1 h2 ho ht (hk p e s m args below meth cc R Z cx hr H locs ls hH hS hl)
theorem e_look (t : Nat) {dflt off : Int} {ps : Array (Int × Int)} {len : Nat} {x : Int32} (hd : decode y.2.1 pc = .ok (.lookupswitch dflt ps, len)) (hp : (ps.toList.zip (ps.toList.drop 1)).all (fun (a, next) => a.1 < next.1) = true) (ho : Op.lookupswitch.offset ps.toList dflt x.toInt = off) (ht : (pc : Int) + off = (t : Int)) (hk : mm_EV g d y k n0 t L st μ Q) : mm_EV g d y k n0 pc L (.int x :: st) μ Q := by
  intro p e s m args below meth cc R Z cx hr H locs ls hH hS hl
  exact lv_lookup cx.1 cx.2.1 hd hp ho ht (hk p e s m args below meth cc R Z cx hr H locs ls hH hS hl)
end EVH
