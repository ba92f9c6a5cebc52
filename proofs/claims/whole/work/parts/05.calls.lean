theorem mm_zs_mono {m n : Nat} (h : m ≤ n) : mm_zs m ≤ mm_zs n := by
  induction h with
  | refl => exact Nat.le_refl _
  | step _ ih => exact Nat.le_trans ih (Nat.le_add_right _ _)
def mm_Qc (g : mm_G) (r : Option FieldType) (n : Nat) (Q : Value → mm_M → Prop) : Array Value → State → Outcome → State → Prop := match r with
  | none => va_Qv (fun u => Q .null u ∧ mn u = n) (fun u t => mm_H g u t.heap) (mm_A g)
  | some .long => va_Ql (fun x u => Q (.long x) u ∧ mn u = n) (fun u t => mm_H g u t.heap) (mm_A g)
  | some _ => va_Qi (fun x u => Q (.int x) u ∧ mn u = n) (fun u t => mm_H g u t.heap) (mm_A g)
def mm_R (d k z : Nat) : Room := { frames := d + 1, cells := k, slots := z, locals := 100 * (d + 1) }
def mm_Pc (g : mm_G) (av : List Value) (μ : mm_M) : Array Value → State → Prop := va_Pc (av.map (mm_e g)) (fun U => mm_H g μ U.heap ∧ va_K (mg_D g) vwCl (mm_tys g) U ∧ mm_fa g U U.heap ∧ U.heap.size = mg_b g + mn μ ∧ True)
/-- the contract of method y at depth d, making k cells -/
def mm_MV (g : mm_G) (d : Nat) (y : mm_Y) (k : Nat) (av : List Value) (μ : mm_M) (Q : Value → mm_M → Prop) : Prop :=
  Met (mg_l g) y.1 (Cond.code y.1 y.2.1 y.2.2.1 y.2.2.2 :: mm_T) (mm_R d k (mm_zs (mn μ + k) - mm_zs (mn μ))) (mm_Pc g av μ) (mm_Qc g y.2.2.2 (mn μ + k) Q) k (mm_zs (mn μ + k) - mm_zs (mn μ)) (mm_A g)
theorem mm_args (g : mm_G) (av : List Value) : ∀ i, lv_args i (av.map (mm_e g)) = mm_em g (lv_args i av) := by
  induction av with
  | nil => intro i; rfl
  | cons v vs ih =>
    intro i
    show (i, mm_e g v) :: lv_args _ (vs.map (mm_e g)) = (i, mm_e g v) :: mm_em g (lv_args _ vs)
    rw [mm_cat, ih]
theorem mm_of_EV {g : mm_G} {d : Nat} {y : mm_Y} {k : Nat} {av : List Value} {μ : mm_M} {Q : Value → mm_M → Prop} (hy : plainName y.1.cls = true) (hlen : (lg_sl (av.map (mm_e g))).length ≤ y.2.2.1)
    (h : mm_EV g d y k (mn μ) 0 (lv_args 0 av) [] μ (fun v u => Q v u ∧ mn u = mn μ + k)) : mm_MV g d y k av μ Q := by
  refine Met.ofW (cc := y.2.1) (maxL := y.2.2.1) (ret := y.2.2.2) hy rfl ?_
  intro p e s m args below meth c s₁ B hml hv
  obtain ⟨rfl, hH, hK, hZ, hsz, hZo⟩ := hv
  have hl := lv_entry (av.map (mm_e g)) (n := y.2.2.1) hlen
  rw [lg_entry_eq]
  have hts := atoms_spec (ws := Cond.code y.1 y.2.1 y.2.2.1 y.2.2.2 :: mm_T) B.pre
  rw [mm_args] at hl
  have hlocks := B.notSynchronized
  have key := h p e s m (av.map (mm_e g)).toArray below meth c (mm_R d k (mm_zs (mn μ + k) - mm_zs (mn μ))) (MQ below (mm_Qc g y.2.2.2 (mn μ + k) Q) (av.map (mm_e g)).toArray s k (mm_zs (mn μ + k) - mm_zs (mn μ)) (mm_A g))
    ⟨B.exec, B.bytes, hml, findClass_of_methodNamed B.named, fun w hw => hts w (List.mem_cons_of_mem _ hw), hK, hZ, ⟨fun h => (name_of_methodNamed B.named B.method).1.trans h, hlocks⟩, ⟨Nat.le_refl _, Nat.le_refl _⟩, ⟨Nat.le_refl _, Nat.le_refl _⟩, hsz.symm, hZo⟩ ?_ s.heap [] _ hH va_S.rf hl
  · rw [Nat.sub_self, Nat.sub_self] at key
    exact key
  · intro v μ' H locs pc ls hq hn hH' hS hd
    obtain ⟨hq, hnn⟩ := hq
    rw [hnn, Nat.add_sub_cancel_left]
    have hret := B.returns
    cases hy2 : y.2.2.2 with
    | none =>
      rw [hy2] at hn
      cases hn
      exact W.vret B.exec B.bytes (hret.trans hy2) (fun t ht hW => ⟨⟨μ', rfl, ⟨hq, hnn⟩, by show mm_H g μ' t.heap; rw [ht]; exact hH'⟩, hS.F ht⟩) hS.2.2 hd
    | some ty =>
      rw [hy2] at hn
      cases ty with
      | long =>
        obtain ⟨x, rfl⟩ := hn
        exact W.lret B.exec B.bytes (hret.trans hy2) (fun t ht hW => ⟨⟨x, μ', rfl, ⟨hq, hnn⟩, by show mm_H g μ' t.heap; rw [ht]; exact hH'⟩, hS.F ht⟩) hS.2.2 hd
      | _ =>
        obtain ⟨x, rfl, hn⟩ := hn
        exact W.zret B.exec B.bytes (hret.trans hy2) hn (fun t ht hW => ⟨⟨x, μ', rfl, ⟨hq, hnn⟩, by show mm_H g μ' t.heap; rw [ht]; exact hH'⟩, hS.F ht⟩) hS.2.2 hd
theorem mm_good : GoodIn mm_T mm_T := fun w hw => ⟨hw, good_of_word (List.mem_filter.mp hw).2⟩
theorem mm_good_code {z : mm_Y} (h : Cond.code z.1 z.2.1 z.2.2.1 z.2.2.2 ∈ mm_T) : GoodIn mm_T (Cond.code z.1 z.2.1 z.2.2.1 z.2.2.2 :: mm_T) := fun w hw => by
  rcases List.mem_cons.mp hw with h1 | h1
  · subst h1
    exact mm_good _ h
  · exact mm_good _ h1
/-- the heap's size, out of the counter of cells -/
theorem mm_size {p : Program} {l : Launch} {e : Env} {R : Room} {s : State} {m : MethodId} {args : Array Value} {below : List Frame} {meth : Method} {c : Code} {H : Heap} {locs : List Loc} {cells slots : Nat} {Q : State → Prop} {g : JFrame}
    (h : H.size ≤ s.heap.size + cells → W p l e R s m args below meth c H locs cells slots Q g) : W p l e R s m args below meth c H locs cells slots Q g := by
  intro T hT X
  have h1 : T.heap.size ≤ s.heap.size + cells := X.same.2.2.1
  rw [hT] at h1
  exact h h1 T hT X
theorem mm_sizeH {g : mm_G} {μ : mm_M} {H : Heap} {s : State} {n0 : Nat} {locs : List Loc} (hH : mm_H g μ H) (hS : va_S (mm_A g) s.heap H locs) (h0 : mg_b g + n0 = s.heap.size) (hn : n0 ≤ mn μ) (h : H.size ≤ s.heap.size + (mn μ - n0)) : H.size = mg_b g + mn μ := by
  rcases Nat.lt_or_ge 0 (mn μ) with hp | hp
  · have h1 := (hH (mn μ - 1) _ (mm_ws_get g μ (by omega))).lt
    have h1 : mg_b g + (mn μ - 1) < H.size := h1
    omega
  · have := hS.1
    omega
def mm_mlB (own : String) (idx : Nat) (z : mm_Y) (n : Nat) : Prop := Cond.methodLink own idx z.1 ∈ mm_T ∧ Cond.initialized z.1.cls ∈ mm_T ∧ Cond.code z.1 z.2.1 z.2.2.1 z.2.2.2 ∈ mm_T ∧ (z.1.cls ≠ "java/lang/invoke/MethodHandle" ∧ z.1.cls ≠ "java/lang/invoke/VarHandle" ∧ (parseMethodDescriptor z.1.desc).map (fun d => d.parameters.length) = some n) ∧ z.2.2.1 ≤ 80
def mm_mlV (own : String) (idx : Nat) (z : mm_Y) (ci n : Nat) : Prop := ci < 11 ∧ z.1.cls = (mm_C ci).1 ∧ mm_mlB own idx z n ∧ Cond.instanceMethod z.1 ∈ mm_T ∧ Cond.selects (mm_C ci).1 z.1 z.1 ∈ mm_T
def mm_mlS (own : String) (idx : Nat) (z : mm_Y) (n : Nat) : Prop := mm_mlB own idx z n ∧ Cond.static z.1 ∈ mm_T
def mm_mlI (own : String) (idx : Nat) (z : mm_Y) (n : Nat) : Prop := mm_mlB own idx z n ∧ z.1.name = "<init>" ∧ Cond.instanceMethod z.1 ∈ mm_T ∧ z.2.2.2 = none
theorem mm_callB {g : mm_G} {d : Nat} {y : mm_Y} {k n0 : Nat} {p : Program} {R : Room} {s : State} {m : MethodId} {args : Array Value} {meth : Method} {c : Code} {z : mm_Y} {idx n kz zz : Nat} (cx : mm_cx g (d + 1) y k n0 p R s m args meth c) (hl : mm_mlB y.1.cls idx z n) :
    CallB R s args y.1.cls idx z.1 z.2.1 z.2.2.1 z.2.2.2 (Cond.code z.1 z.2.1 z.2.2.1 z.2.2.2 :: mm_T) (mm_R d kz zz) kz zz n := by
  obtain ⟨h1, h2, h3, h4, h5⟩ := hl
  have hw := cx.2.2.2.2.1
  have hr := cx.2.2.2.2.2.2.2.2.1
  exact callB_of n hw (mm_good_code h3) rfl rfl rfl (hw _ h2) (hw _ h1) h4 ⟨by show d + 1 + 1 ≤ R.frames; exact hr.1, by show 8 + (z.2.2.1 + 11) + 100 * (d + 1) ≤ R.locals; omega⟩
theorem mm_blind (g : mm_G) (av : List Value) (μ : mm_M) : FrameBlind (mm_Pc g av μ) := fun a U f mk q => by
  obtain ⟨q0, q1, q2, q3, q4, q5⟩ := q
  exact ⟨q0, q1, va_K.moved (u := U) (U := U.calling f mk a) (Vm.Alike.refl U.vm) q2, mm_fa_move (u := U) (U := U.calling f mk a) (State.WarmedH.refl U) (fun _ _ => rfl) q3, q4, q5⟩
theorem mm_preU {g : mm_G} {d : Nat} {y : mm_Y} {k n0 : Nat} {p : Program} {R : Room} {s : State} {m : MethodId} {args : Array Value} {meth : Method} {c : Code} {μ : mm_M} {H : Heap} {locs : List Loc} (cx : mm_cx g d y k n0 p R s m args meth c) (hH : mm_H g μ H) (hS : va_S (mm_A g) s.heap H locs) (hsz : H.size = mg_b g + mn μ) (av : List Value) : ∀ U : State, U.heap = H → s.WarmedH U.vm → mm_Pc g av μ (av.map (mm_e g)).toArray U := fun U hU hW =>
  ⟨rfl, by rw [hU]; exact hH, va_K.moved hW.alike cx.2.2.2.2.2.1, mm_fa_move hW (fun q hq => by rw [hU]; exact hS.2.1 q (by have := cx.2.2.2.2.2.2.2.2.2.2.1; omega) (by unfold mm_A; omega)) cx.2.2.2.2.2.2.1, by rw [hU]; exact hsz, trivial⟩
theorem mm_room {n0 k kz a b : Nat} (h0 : n0 ≤ a) (h : a + kz ≤ n0 + k) (hb : b = a + kz) : (a - n0) + kz = b - n0 ∧ (mm_zs a - mm_zs n0) + (mm_zs (a + kz) - mm_zs a) = mm_zs b - mm_zs n0 ∧ (a - n0) + kz ≤ k ∧ (mm_zs a - mm_zs n0) + (mm_zs (a + kz) - mm_zs a) ≤ mm_zs (n0 + k) - mm_zs n0 := by
  have h1 := mm_zs_mono h0
  have h2 := mm_zs_mono (Nat.le_add_right a kz)
  have h3 := mm_zs_mono h
  subst hb
  refine ⟨by omega, by omega, by omega, by omega⟩
section EVC
variable {g : mm_G} {d : Nat} {y : mm_Y} {k n0 pc : Nat} {L : mm_L} {st : List Value} {μ : mm_M} {Q : Value → mm_M → Prop}
theorem e_callVv {z : mm_Y} {idx kz : Nat} {a ci : Nat} {av : List Value} {st0 : List Value} {Qz : Value → mm_M → Prop} (hd : decode y.2.1 pc = .ok (.invokevirtual idx, 3)) (hl0 : mm_mlV y.1.cls idx z ci av.length) (hK : (mm_K a).1 = ci) (ha : a < mn μ) (hret : z.2.2.2 = none) (hst : st0 = av.reverse ++ .ref a :: st) (hM : mm_MV g d z kz (.ref a :: av) μ Qz) (hn0 : n0 ≤ mn μ) (hkz : mn μ + kz ≤ n0 + k) (hw : (st.map fun v => v.category).sum ≤ 8)
    (hk : ∀ (u : mm_M), Qz .null u → mn u = mn μ + kz → mm_EV g (d + 1) y k n0 (pc + 3) L (st) u Q) : mm_EV g (d + 1) y k n0 pc L st0 μ Q := by
  intro p e s m args below meth cc R Z cx hr H locs ls hH hS hl
  subst hst
  refine mm_size (fun hsz0 => ?_)
  have hsz := mm_sizeH hH hS cx.2.2.2.2.2.2.2.2.2.2.1 hn0 hsz0
  have hrm := mm_room hn0 hkz rfl
  have hcs := cx.2.2.2.2.2.2.2.2.2.1
  have hqc : mm_Qc g z.2.2.2 (mn μ + kz) Qz = va_Qv (fun u => Qz .null u ∧ mn u = mn μ + kz) (fun u t => mm_H g u t.heap) (mm_A g) := by
    rw [hret]
    try rfl
  unfold mm_MV at hM
  rw [hqc] at hM
  have hw' : ((st.map (mm_e g)).map fun v => v.category).sum ≤ 8 := by
    rw [List.map_map]
    refine le_of_eq_of_le (congrArg List.sum (List.map_congr_left (fun v _ => mm_cat g v))) hw
  refine va_callv (S := mm_M) (A0 := mm_A g) (H0 := s.heap) (va_runV (As := av.map (mm_e g)) (rest := st.map (mm_e g)) (b := mg_b g + a) (C := (mm_C ci).1) ⟨cx.1, cx.2.1, cx.2.2.1, cx.2.2.2.1, cx.2.2.2.2.1⟩ hM ⟨mm_callB cx hl0.2.2.1, cx.2.2.2.2.1 _ hl0.2.2.2.1, cx.2.2.2.2.1 _ hl0.2.2.2.2⟩ ⟨mm_blind g _ μ, va_recv cx.2.2.2.2.2.1 hH (ci := ci) (q0 := a) (mm_clok_all ci hl0.1).1 ((mm_ws_get g μ ha).trans (by rw [mm_obj hK hl0.1])), mm_preU cx hH hS hsz (.ref a :: av)⟩ rfl (by simp) hl.1 (by simp [mm_e]) (lv_room hw') hd ⟨Nat.le_trans hrm.2.2.1 hcs.1, Nat.le_trans hrm.2.2.2 hcs.2⟩) hS (fun q _ h => h) (fun q h => h) (fun u t H1 locs1 ht hvm hp hB hz hk1 hS1 => ?_)
  rw [hrm.1, hrm.2.1]
  have := hk u hp.1 hp.2 p e s m args below meth cc R Z cx hr H1 locs1 ls (by rw [← ht]; exact hB) hS1 hl
  rw [hp.2] at this
  exact this
theorem e_callSv {z : mm_Y} {idx kz : Nat}  {av : List Value} {st0 : List Value} {Qz : Value → mm_M → Prop} (hd : decode y.2.1 pc = .ok (.invokestatic idx, 3)) (hl0 : mm_mlS y.1.cls idx z av.length) (hret : z.2.2.2 = none) (hst : st0 = av.reverse ++ st) (hM : mm_MV g d z kz (av) μ Qz) (hn0 : n0 ≤ mn μ) (hkz : mn μ + kz ≤ n0 + k) (hw : (st.map fun v => v.category).sum ≤ 8)
    (hk : ∀ (u : mm_M), Qz .null u → mn u = mn μ + kz → mm_EV g (d + 1) y k n0 (pc + 3) L (st) u Q) : mm_EV g (d + 1) y k n0 pc L st0 μ Q := by
  intro p e s m args below meth cc R Z cx hr H locs ls hH hS hl
  subst hst
  refine mm_size (fun hsz0 => ?_)
  have hsz := mm_sizeH hH hS cx.2.2.2.2.2.2.2.2.2.2.1 hn0 hsz0
  have hrm := mm_room hn0 hkz rfl
  have hcs := cx.2.2.2.2.2.2.2.2.2.1
  have hqc : mm_Qc g z.2.2.2 (mn μ + kz) Qz = va_Qv (fun u => Qz .null u ∧ mn u = mn μ + kz) (fun u t => mm_H g u t.heap) (mm_A g) := by
    rw [hret]
    try rfl
  unfold mm_MV at hM
  rw [hqc] at hM
  have hw' : ((st.map (mm_e g)).map fun v => v.category).sum ≤ 8 := by
    rw [List.map_map]
    refine le_of_eq_of_le (congrArg List.sum (List.map_congr_left (fun v _ => mm_cat g v))) hw
  refine va_callv (S := mm_M) (A0 := mm_A g) (H0 := s.heap) (va_runS (As := av.map (mm_e g)) (rest := st.map (mm_e g)) ⟨cx.1, cx.2.1, cx.2.2.1, cx.2.2.2.1, cx.2.2.2.2.1⟩ hM ⟨mm_callB cx hl0.1, cx.2.2.2.2.1 _ hl0.2⟩ ⟨mm_blind g _ μ, mm_preU cx hH hS hsz av⟩ rfl (by simp) hl.1 (by simp [mm_e]) (lv_room hw') hd ⟨Nat.le_trans hrm.2.2.1 hcs.1, Nat.le_trans hrm.2.2.2 hcs.2⟩) hS (fun q _ h => h) (fun q h => h) (fun u t H1 locs1 ht hvm hp hB hz hk1 hS1 => ?_)
  rw [hrm.1, hrm.2.1]
  have := hk u hp.1 hp.2 p e s m args below meth cc R Z cx hr H1 locs1 ls (by rw [← ht]; exact hB) hS1 hl
  rw [hp.2] at this
  exact this
theorem e_callIv {z : mm_Y} {idx kz : Nat} {a : Nat} {av : List Value} {st0 : List Value} {Qz : Value → mm_M → Prop} (hd : decode y.2.1 pc = .ok (.invokespecial idx, 3)) (hl0 : mm_mlI y.1.cls idx z av.length) (hret : z.2.2.2 = none) (hst : st0 = av.reverse ++ .ref a :: st) (hM : mm_MV g d z kz (.ref a :: av) μ Qz) (hn0 : n0 ≤ mn μ) (hkz : mn μ + kz ≤ n0 + k) (hw : (st.map fun v => v.category).sum ≤ 8)
    (hk : ∀ (u : mm_M), Qz .null u → mn u = mn μ + kz → mm_EV g (d + 1) y k n0 (pc + 3) L (st) u Q) : mm_EV g (d + 1) y k n0 pc L st0 μ Q := by
  intro p e s m args below meth cc R Z cx hr H locs ls hH hS hl
  subst hst
  refine mm_size (fun hsz0 => ?_)
  have hsz := mm_sizeH hH hS cx.2.2.2.2.2.2.2.2.2.2.1 hn0 hsz0
  have hrm := mm_room hn0 hkz rfl
  have hcs := cx.2.2.2.2.2.2.2.2.2.1
  have hqc : mm_Qc g z.2.2.2 (mn μ + kz) Qz = va_Qv (fun u => Qz .null u ∧ mn u = mn μ + kz) (fun u t => mm_H g u t.heap) (mm_A g) := by
    rw [hret]
    try rfl
  unfold mm_MV at hM
  rw [hqc] at hM
  have hw' : ((st.map (mm_e g)).map fun v => v.category).sum ≤ 8 := by
    rw [List.map_map]
    refine le_of_eq_of_le (congrArg List.sum (List.map_congr_left (fun v _ => mm_cat g v))) hw
  refine va_callv (S := mm_M) (A0 := mm_A g) (H0 := s.heap) (va_runI (As := av.map (mm_e g)) (rest := st.map (mm_e g)) (b := mg_b g + a) ⟨cx.1, cx.2.1, cx.2.2.1, cx.2.2.2.1, cx.2.2.2.2.1⟩ hM ⟨by rw [← hl0.2.2.2]; exact mm_callB cx hl0.1, hl0.2.1, cx.2.2.2.2.1 _ hl0.2.2.1⟩ ⟨mm_blind g _ μ, mm_preU cx hH hS hsz (.ref a :: av)⟩ rfl (by simp) hl.1 (by simp [mm_e]) (lv_room hw') hd ⟨Nat.le_trans hrm.2.2.1 hcs.1, Nat.le_trans hrm.2.2.2 hcs.2⟩) hS (fun q _ h => h) (fun q h => h) (fun u t H1 locs1 ht hvm hp hB hz hk1 hS1 => ?_)
  rw [hrm.1, hrm.2.1]
  have := hk u hp.1 hp.2 p e s m args below meth cc R Z cx hr H1 locs1 ls (by rw [← ht]; exact hB) hS1 hl
  rw [hp.2] at this
  exact this
theorem e_callVi {z : mm_Y} {idx kz : Nat} {a ci : Nat} {av : List Value} {st0 : List Value} {Qz : Value → mm_M → Prop} (hd : decode y.2.1 pc = .ok (.invokevirtual idx, 3)) (hl0 : mm_mlV y.1.cls idx z ci av.length) (hK : (mm_K a).1 = ci) (ha : a < mn μ) (hret : ∃ ty, z.2.2.2 = some ty ∧ ty ≠ .long) (hst : st0 = av.reverse ++ .ref a :: st) (hM : mm_MV g d z kz (.ref a :: av) μ Qz) (hn0 : n0 ≤ mn μ) (hkz : mn μ + kz ≤ n0 + k) (hw : (st.map fun v => v.category).sum ≤ 8)
    (hk : ∀ (x : Int32) (u : mm_M), Qz (.int x) u → mn u = mn μ + kz → mm_EV g (d + 1) y k n0 (pc + 3) L (.int x :: st) u Q) : mm_EV g (d + 1) y k n0 pc L st0 μ Q := by
  intro p e s m args below meth cc R Z cx hr H locs ls hH hS hl
  subst hst
  refine mm_size (fun hsz0 => ?_)
  have hsz := mm_sizeH hH hS cx.2.2.2.2.2.2.2.2.2.2.1 hn0 hsz0
  have hrm := mm_room hn0 hkz rfl
  have hcs := cx.2.2.2.2.2.2.2.2.2.1
  have hqc : mm_Qc g z.2.2.2 (mn μ + kz) Qz = va_Qi (fun x u => Qz (.int x) u ∧ mn u = mn μ + kz) (fun u t => mm_H g u t.heap) (mm_A g) := by
    obtain ⟨ty, h1, h2⟩ := hret
    rw [h1]
    cases ty <;> first | rfl | exact absurd rfl h2
    try rfl
  unfold mm_MV at hM
  rw [hqc] at hM
  have hw' : ((st.map (mm_e g)).map fun v => v.category).sum ≤ 8 := by
    rw [List.map_map]
    refine le_of_eq_of_le (congrArg List.sum (List.map_congr_left (fun v _ => mm_cat g v))) hw
  refine va_calli (S := mm_M) (A0 := mm_A g) (H0 := s.heap) (va_runV (As := av.map (mm_e g)) (rest := st.map (mm_e g)) (b := mg_b g + a) (C := (mm_C ci).1) ⟨cx.1, cx.2.1, cx.2.2.1, cx.2.2.2.1, cx.2.2.2.2.1⟩ hM ⟨mm_callB cx hl0.2.2.1, cx.2.2.2.2.1 _ hl0.2.2.2.1, cx.2.2.2.2.1 _ hl0.2.2.2.2⟩ ⟨mm_blind g _ μ, va_recv cx.2.2.2.2.2.1 hH (ci := ci) (q0 := a) (mm_clok_all ci hl0.1).1 ((mm_ws_get g μ ha).trans (by rw [mm_obj hK hl0.1])), mm_preU cx hH hS hsz (.ref a :: av)⟩ rfl (by simp) hl.1 (by simp [mm_e]) (lv_room hw') hd ⟨Nat.le_trans hrm.2.2.1 hcs.1, Nat.le_trans hrm.2.2.2 hcs.2⟩) hS (fun q _ h => h) (fun q h => h) (fun x u t H1 locs1 ht hvm hp hB hz hk1 hS1 => ?_)
  rw [hrm.1, hrm.2.1]
  have := hk x u hp.1 hp.2 p e s m args below meth cc R Z cx hr H1 locs1 ls (by rw [← ht]; exact hB) hS1 hl
  rw [hp.2] at this
  exact this
theorem e_callSi {z : mm_Y} {idx kz : Nat}  {av : List Value} {st0 : List Value} {Qz : Value → mm_M → Prop} (hd : decode y.2.1 pc = .ok (.invokestatic idx, 3)) (hl0 : mm_mlS y.1.cls idx z av.length) (hret : ∃ ty, z.2.2.2 = some ty ∧ ty ≠ .long) (hst : st0 = av.reverse ++ st) (hM : mm_MV g d z kz (av) μ Qz) (hn0 : n0 ≤ mn μ) (hkz : mn μ + kz ≤ n0 + k) (hw : (st.map fun v => v.category).sum ≤ 8)
    (hk : ∀ (x : Int32) (u : mm_M), Qz (.int x) u → mn u = mn μ + kz → mm_EV g (d + 1) y k n0 (pc + 3) L (.int x :: st) u Q) : mm_EV g (d + 1) y k n0 pc L st0 μ Q := by
  intro p e s m args below meth cc R Z cx hr H locs ls hH hS hl
  subst hst
  refine mm_size (fun hsz0 => ?_)
  have hsz := mm_sizeH hH hS cx.2.2.2.2.2.2.2.2.2.2.1 hn0 hsz0
  have hrm := mm_room hn0 hkz rfl
  have hcs := cx.2.2.2.2.2.2.2.2.2.1
  have hqc : mm_Qc g z.2.2.2 (mn μ + kz) Qz = va_Qi (fun x u => Qz (.int x) u ∧ mn u = mn μ + kz) (fun u t => mm_H g u t.heap) (mm_A g) := by
    obtain ⟨ty, h1, h2⟩ := hret
    rw [h1]
    cases ty <;> first | rfl | exact absurd rfl h2
    try rfl
  unfold mm_MV at hM
  rw [hqc] at hM
  have hw' : ((st.map (mm_e g)).map fun v => v.category).sum ≤ 8 := by
    rw [List.map_map]
    refine le_of_eq_of_le (congrArg List.sum (List.map_congr_left (fun v _ => mm_cat g v))) hw
  refine va_calli (S := mm_M) (A0 := mm_A g) (H0 := s.heap) (va_runS (As := av.map (mm_e g)) (rest := st.map (mm_e g)) ⟨cx.1, cx.2.1, cx.2.2.1, cx.2.2.2.1, cx.2.2.2.2.1⟩ hM ⟨mm_callB cx hl0.1, cx.2.2.2.2.1 _ hl0.2⟩ ⟨mm_blind g _ μ, mm_preU cx hH hS hsz av⟩ rfl (by simp) hl.1 (by simp [mm_e]) (lv_room hw') hd ⟨Nat.le_trans hrm.2.2.1 hcs.1, Nat.le_trans hrm.2.2.2 hcs.2⟩) hS (fun q _ h => h) (fun q h => h) (fun x u t H1 locs1 ht hvm hp hB hz hk1 hS1 => ?_)
  rw [hrm.1, hrm.2.1]
  have := hk x u hp.1 hp.2 p e s m args below meth cc R Z cx hr H1 locs1 ls (by rw [← ht]; exact hB) hS1 hl
  rw [hp.2] at this
  exact this
theorem e_callVl {z : mm_Y} {idx kz : Nat} {a ci : Nat} {av : List Value} {st0 : List Value} {Qz : Value → mm_M → Prop} (hd : decode y.2.1 pc = .ok (.invokevirtual idx, 3)) (hl0 : mm_mlV y.1.cls idx z ci av.length) (hK : (mm_K a).1 = ci) (ha : a < mn μ) (hret : z.2.2.2 = some .long) (hst : st0 = av.reverse ++ .ref a :: st) (hM : mm_MV g d z kz (.ref a :: av) μ Qz) (hn0 : n0 ≤ mn μ) (hkz : mn μ + kz ≤ n0 + k) (hw : (st.map fun v => v.category).sum ≤ 8)
    (hk : ∀ (x : Int64) (u : mm_M), Qz (.long x) u → mn u = mn μ + kz → mm_EV g (d + 1) y k n0 (pc + 3) L (.long x :: st) u Q) : mm_EV g (d + 1) y k n0 pc L st0 μ Q := by
  intro p e s m args below meth cc R Z cx hr H locs ls hH hS hl
  subst hst
  refine mm_size (fun hsz0 => ?_)
  have hsz := mm_sizeH hH hS cx.2.2.2.2.2.2.2.2.2.2.1 hn0 hsz0
  have hrm := mm_room hn0 hkz rfl
  have hcs := cx.2.2.2.2.2.2.2.2.2.1
  have hqc : mm_Qc g z.2.2.2 (mn μ + kz) Qz = va_Ql (fun x u => Qz (.long x) u ∧ mn u = mn μ + kz) (fun u t => mm_H g u t.heap) (mm_A g) := by
    rw [hret]
    try rfl
  unfold mm_MV at hM
  rw [hqc] at hM
  have hw' : ((st.map (mm_e g)).map fun v => v.category).sum ≤ 8 := by
    rw [List.map_map]
    refine le_of_eq_of_le (congrArg List.sum (List.map_congr_left (fun v _ => mm_cat g v))) hw
  refine va_calll (S := mm_M) (A0 := mm_A g) (H0 := s.heap) (va_runV (As := av.map (mm_e g)) (rest := st.map (mm_e g)) (b := mg_b g + a) (C := (mm_C ci).1) ⟨cx.1, cx.2.1, cx.2.2.1, cx.2.2.2.1, cx.2.2.2.2.1⟩ hM ⟨mm_callB cx hl0.2.2.1, cx.2.2.2.2.1 _ hl0.2.2.2.1, cx.2.2.2.2.1 _ hl0.2.2.2.2⟩ ⟨mm_blind g _ μ, va_recv cx.2.2.2.2.2.1 hH (ci := ci) (q0 := a) (mm_clok_all ci hl0.1).1 ((mm_ws_get g μ ha).trans (by rw [mm_obj hK hl0.1])), mm_preU cx hH hS hsz (.ref a :: av)⟩ rfl (by simp) hl.1 (by simp [mm_e]) (lv_room hw') hd ⟨Nat.le_trans hrm.2.2.1 hcs.1, Nat.le_trans hrm.2.2.2 hcs.2⟩) hS (fun q _ h => h) (fun q h => h) (fun x u t H1 locs1 ht hvm hp hB hz hk1 hS1 => ?_)
  rw [hrm.1, hrm.2.1]
  have := hk x u hp.1 hp.2 p e s m args below meth cc R Z cx hr H1 locs1 ls (by rw [← ht]; exact hB) hS1 hl
  rw [hp.2] at this
  exact this
theorem e_callSl {z : mm_Y} {idx kz : Nat}  {av : List Value} {st0 : List Value} {Qz : Value → mm_M → Prop} (hd : decode y.2.1 pc = .ok (.invokestatic idx, 3)) (hl0 : mm_mlS y.1.cls idx z av.length) (hret : z.2.2.2 = some .long) (hst : st0 = av.reverse ++ st) (hM : mm_MV g d z kz (av) μ Qz) (hn0 : n0 ≤ mn μ) (hkz : mn μ + kz ≤ n0 + k) (hw : (st.map fun v => v.category).sum ≤ 8)
    (hk : ∀ (x : Int64) (u : mm_M), Qz (.long x) u → mn u = mn μ + kz → mm_EV g (d + 1) y k n0 (pc + 3) L (.long x :: st) u Q) : mm_EV g (d + 1) y k n0 pc L st0 μ Q := by
  intro p e s m args below meth cc R Z cx hr H locs ls hH hS hl
  subst hst
  refine mm_size (fun hsz0 => ?_)
  have hsz := mm_sizeH hH hS cx.2.2.2.2.2.2.2.2.2.2.1 hn0 hsz0
  have hrm := mm_room hn0 hkz rfl
  have hcs := cx.2.2.2.2.2.2.2.2.2.1
  have hqc : mm_Qc g z.2.2.2 (mn μ + kz) Qz = va_Ql (fun x u => Qz (.long x) u ∧ mn u = mn μ + kz) (fun u t => mm_H g u t.heap) (mm_A g) := by
    rw [hret]
    try rfl
  unfold mm_MV at hM
  rw [hqc] at hM
  have hw' : ((st.map (mm_e g)).map fun v => v.category).sum ≤ 8 := by
    rw [List.map_map]
    refine le_of_eq_of_le (congrArg List.sum (List.map_congr_left (fun v _ => mm_cat g v))) hw
  refine va_calll (S := mm_M) (A0 := mm_A g) (H0 := s.heap) (va_runS (As := av.map (mm_e g)) (rest := st.map (mm_e g)) ⟨cx.1, cx.2.1, cx.2.2.1, cx.2.2.2.1, cx.2.2.2.2.1⟩ hM ⟨mm_callB cx hl0.1, cx.2.2.2.2.1 _ hl0.2⟩ ⟨mm_blind g _ μ, mm_preU cx hH hS hsz av⟩ rfl (by simp) hl.1 (by simp [mm_e]) (lv_room hw') hd ⟨Nat.le_trans hrm.2.2.1 hcs.1, Nat.le_trans hrm.2.2.2 hcs.2⟩) hS (fun q _ h => h) (fun q h => h) (fun x u t H1 locs1 ht hvm hp hB hz hk1 hS1 => ?_)
  rw [hrm.1, hrm.2.1]
  have := hk x u hp.1 hp.2 p e s m args below meth cc R Z cx hr H1 locs1 ls (by rw [← ht]; exact hB) hS1 hl
  rw [hp.2] at this
  exact this
end EVC
