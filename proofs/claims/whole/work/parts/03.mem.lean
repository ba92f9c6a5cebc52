/-! MEMORY: ints, longs, references, how many cells; each cell's kind and length is known ahead (mm_K). -/
abbrev mm_M : Type := (Nat → Nat → Int32) × (Nat → Nat → Int64) × (Nat → Nat → Option Nat) × Nat
/-- what stays through a run: launch, base, classes, slots, array classes; the addresses of the script, of the string and of its bytes, a formatter; the script's length and ints -/
abbrev mm_G : Type := Launch × Nat × (Nat → ClassId) × (Nat → Nat → Nat) × (Nat → ClassId) × Nat × Nat × Nat × Option Nat × Nat × (Nat → Int32)
/-- a method: name, bytes, locals, what it answers -/
abbrev mm_Y : Type := MethodName × ByteArray × Nat × Option FieldType
abbrev mg_l (g : mm_G) : Launch := g.1
abbrev mg_b (g : mm_G) : Nat := g.2.1
abbrev mg_D (g : mm_G) : va_G := (g.2.2.1, g.2.2.2.1)
abbrev mg_cy (g : mm_G) : Nat → ClassId := g.2.2.2.2.1
abbrev mg_s (g : mm_G) : Nat := g.2.2.2.2.2.1
abbrev mg_w (g : mm_G) : Nat := g.2.2.2.2.2.2.1
abbrev mg_v (g : mm_G) : Nat := g.2.2.2.2.2.2.2.1
abbrev mg_f (g : mm_G) : Option Nat := g.2.2.2.2.2.2.2.2.1
abbrev mg_L (g : mm_G) : Nat := g.2.2.2.2.2.2.2.2.2.1
abbrev mg_xs (g : mm_G) : Nat → Int32 := g.2.2.2.2.2.2.2.2.2.2
abbrev mi (μ : mm_M) : Nat → Nat → Int32 := μ.1
abbrev mj (μ : mm_M) : Nat → Nat → Int64 := μ.2.1
abbrev mr (μ : mm_M) : Nat → Nat → Option Nat := μ.2.2.1
abbrev mn (μ : mm_M) : Nat := μ.2.2.2

def mm_tab : List (Nat × Nat) := [(9, 0), (6, 0), (11, 400), (4, 0), (12, 401), (12, 401), (12, 401), (1, 0), (12, 6), (12, 6), (12, 36), (16, 7), (5, 0), (12, 400), (5, 0), (12, 400), (5, 0), (12, 400), (5, 0), (12, 400), (5, 0), (12, 400), (5, 0), (12, 400), (5, 0), (12, 400), (8, 0), (1, 0), (12, 6), (12, 6), (12, 36), (2, 0), (12, 6), (12, 6), (12, 6), (12, 6), (3, 0), (12, 10), (12, 10), (12, 10), (17, 4), (8, 0), (1, 0), (12, 6), (12, 6), (12, 36), (2, 0), (12, 6), (12, 6), (12, 6), (12, 6), (3, 0), (12, 10), (12, 10), (12, 10), (8, 0), (1, 0), (12, 6), (12, 6), (12, 36), (2, 0), (12, 6), (12, 6), (12, 6), (12, 6), (3, 0), (12, 10), (12, 10), (12, 10), (8, 0), (1, 0), (12, 6), (12, 6), (12, 36), (2, 0), (12, 6), (12, 6), (12, 6), (12, 6), (3, 0), (12, 10), (12, 10), (12, 10), (8, 0), (1, 0), (12, 6), (12, 6), (12, 36), (2, 0), (12, 6), (12, 6), (12, 6), (12, 6), (3, 0), (12, 10), (12, 10), (12, 10), (14, 4), (0, 0), (15, 20), (2, 0), (12, 6), (12, 6), (12, 6), (12, 6), (2, 0), (12, 6), (12, 6), (12, 6), (12, 6), (2, 0), (12, 6), (12, 6), (12, 6), (12, 6), (2, 0), (12, 6), (12, 6), (12, 6), (12, 6), (2, 0), (12, 6), (12, 6), (12, 6), (12, 6), (2, 0), (12, 6), (12, 6), (12, 6), (12, 6), (2, 0), (12, 6), (12, 6), (12, 6), (12, 6), (2, 0), (12, 6), (12, 6), (12, 6), (12, 6), (2, 0), (12, 6), (12, 6), (12, 6), (12, 6), (2, 0), (12, 6), (12, 6), (12, 6), (12, 6), (2, 0), (12, 6), (12, 6), (12, 6), (12, 6), (2, 0), (12, 6), (12, 6), (12, 6), (12, 6), (2, 0), (12, 6), (12, 6), (12, 6), (12, 6), (2, 0), (12, 6), (12, 6), (12, 6), (12, 6), (2, 0), (12, 6), (12, 6), (12, 6), (12, 6), (2, 0), (12, 6), (12, 6), (12, 6), (12, 6), (2, 0), (12, 6), (12, 6), (12, 6), (12, 6), (2, 0), (12, 6), (12, 6), (12, 6), (12, 6), (2, 0), (12, 6), (12, 6), (12, 6), (12, 6), (2, 0), (12, 6), (12, 6), (12, 6), (12, 6), (7, 0), (2, 0), (12, 6), (12, 6), (12, 6), (12, 6), (12, 6), (12, 6), (12, 6), (13, 13), (13, 48), (12, 6), (12, 72), (12, 427), (10, 0), (11, 400), (12, 2400), (12, 7), (12, 288), (12, 6), (12, 90), (12, 400), (13, 64), (13, 13), (12, 121), (12, 6), (12, 6), (12, 6), (12, 620), (12, 31), (12, 7), (12, 6), (12, 732), (12, 72), (14, 7), (12, 427), (12, 484), (12, 4), (12, 4), (14, 4)]
def mm_fks : List (List Nat) := [[2, 0, 0], [0, 0, 0, 0, 0, 2, 2, 2], [0, 0, 2, 2, 2, 2], [0, 2, 2, 2], [2, 2, 2, 2, 0, 0, 0, 0, 0, 0, 0], [2, 0], [2, 0], [2, 2, 2, 0, 0, 0, 2, 0, 2, 2, 2, 2], [2, 2, 2, 0, 0], [2, 2, 2, 2, 0, 2, 2, 2, 2, 2, 2, 2, 2], [2, 0, 0, 2, 2, 2, 2, 2, 0, 0, 0, 0, 0, 0, 0, 2, 0, 2, 0, 2, 2, 0, 0, 0, 0, 0, 2, 2, 0, 2, 2, 0, 2, 2, 2, 0, 0, 2, 2, 2, 2, 1, 2, 2, 2, 2]]
def mm_K (a : Nat) : Nat × Nat := mm_tab.getD a (99, 0)
def mm_fk (c k : Nat) : Nat := (mm_fks.getD c []).getD k 9
def mm_nf (c : Nat) : Nat := (mm_fks.getD c []).length
def mm_sz (a : Nat) : Nat := if (mm_K a).1 < 11 then mm_nf (mm_K a).1 else (mm_K a).2
def mm_zs : Nat → Nat
  | 0 => 0
  | n + 1 => mm_zs n + mm_sz n
def mm_fv (g : mm_G) (μ : mm_M) (i k : Nat) : Value := if mm_fk (mm_K i).1 k = 0 then .int (mi μ i k) else if mm_fk (mm_K i).1 k = 1 then .long (mj μ i k) else va_rf ((mr μ i k).map (mg_b g + ·))
def mm_ar (g : mm_G) (μ : mm_M) (i : Nat) : (Nat → Int32) ⊕ (Nat → Int64) ⊕ (Nat → UInt32) ⊕ (Nat → UInt64) ⊕ (Nat → Option Nat) := if (mm_K i).1 = 13 then .inr (.inl (mj μ i)) else if 15 ≤ (mm_K i).1 then .inr (.inr (.inr (.inr (fun j => (mr μ i j).map (mg_b g + ·))))) else .inl (mi μ i)
def mm_cell (g : mm_G) (μ : mm_M) (i : Nat) : va_E := if (mm_K i).1 < 11 then .inr ((mm_K i).1, (List.range (mm_nf (mm_K i).1)).map (mm_fv g μ i)) else .inl (mg_cy g (mm_K i).1, (mm_K i).2, mm_ar g μ i)
def mm_ws (g : mm_G) (μ : mm_M) : va_W := (List.range (mn μ)).map (fun i => (mg_b g + i, mm_cell g μ i))
def mm_A (g : mm_G) : Nat → Prop := fun q => mg_b g ≤ q
def mm_tys (g : mm_G) : List (ClassId × FieldType) := [(mg_cy g 11, .byte), (mg_cy g 12, .int), (mg_cy g 13, .long), (mg_cy g 14, .boolean), (mg_cy g 15, .object RX2), (mg_cy g 16, .object RX5), (mg_cy g 17, .object RX8)]
/-- the heap holds the memory -/
def mm_H (g : mm_G) (μ : mm_M) (H : Heap) : Prop := va_P (mg_D g) vwCl (mm_ws g μ) H
/-- a value of the memory as the machine has it: references by their place, .retAddr 0 the script, 1 the string, 2 its bytes, 3 the formatter -/
def mm_e (g : mm_G) (v : Value) : Value := match v with
  | .ref i => .ref (mg_b g + i)
  | .retAddr 0 => .ref (mg_s g)
  | .retAddr 1 => .ref (mg_w g)
  | .retAddr 2 => .ref (mg_v g)
  | .retAddr _ => va_rf (mg_f g)
  | .int x => .int x
  | .long x => .long x
  | .float x => .float x
  | .double x => .double x
  | .null => .null
theorem mm_cat (g : mm_G) (v : Value) : (mm_e g v).category = v.category := by
  cases v with
  | retAddr k =>
    match k with
    | 0 => rfl
    | 1 => rfl
    | 2 => rfl
    | n + 3 =>
      show (va_rf (mg_f g)).category = 1
      cases mg_f g <;> rfl
  | _ => rfl
abbrev mm_L : Type := List (Nat × Value)
def mm_em (g : mm_G) (L : mm_L) : mm_L := L.map (fun q => (q.1, mm_e g q.2))
def mm_s1 (i : Nat) (v : Value) (L : mm_L) : mm_L := L.filter (fun q => decide (q.1 < i) && !(q.1 + 1 == i && q.2.category == 2)) ++ (i, v) :: L.filter (fun q => decide (i < q.1))
def mm_s2 (i : Nat) (v : Value) (L : mm_L) : mm_L := L.filter (fun q => decide (q.1 < i) && !(q.1 + 1 == i && q.2.category == 2)) ++ (i, v) :: L.filter (fun q => decide (i + 1 < q.1))
def mm_T : List Cond := lw_tbl.filter goodWord
def mm_tx : String := "lodger other tired othertired pence otherpence dear back seekers inside torches clock hour house count seek if and or not "
def mm_by : List Int32 := [108, 111, 100, 103, 101, 114, 32, 111, 116, 104, 101, 114, 32, 116, 105, 114, 101, 100, 32, 111, 116, 104, 101, 114, 116, 105, 114, 101, 100, 32, 112, 101, 110, 99, 101, 32, 111, 116, 104, 101, 114, 112, 101, 110, 99, 101, 32, 100, 101, 97, 114, 32, 98, 97, 99, 107, 32, 115, 101, 101, 107, 101, 114, 115, 32, 105, 110, 115, 105, 100, 101, 32, 116, 111, 114, 99, 104, 101, 115, 32, 99, 108, 111, 99, 107, 32, 104, 111, 117, 114, 32, 104, 111, 117, 115, 101, 32, 99, 111, 117, 110, 116, 32, 115, 101, 101, 107, 32, 105, 102, 32, 97, 110, 100, 32, 111, 114, 32, 110, 111, 116, 32]
/-- what is old: the script, the string constant, statics, words that are not warm by themselves -/
def mm_fa (g : mm_G) (U : State) (H : Heap) : Prop := va_X (mg_s g) (mg_L g) (mg_xs g) U H ∧ mg_s g < mg_b g ∧ vk_R RX4 93 mm_tx (mg_w g) U ∧ vk_S 1 [122] [mm_by] (fun _ => mg_w g) (fun _ => mg_v g) (mm_A g) U H ∧ va_Z "java/lang/String" "COMPACT_STRINGS" "Z" (.int 1) (mm_A g) U H ∧ va_Z "jdk/internal/util/Preconditions" "SIOOBE_FORMATTER" "Ljava/util/function/BiFunction;" (va_rf (mg_f g)) (mm_A g) U H ∧ va_AO RX2 U ∧ va_AO RX5 U ∧ va_AO RX8 U ∧ va_Nw (.methodLinkNest RX9 11 yX6_init RX9) U ∧ va_Nw (.methodLinkNest RX9 27 yX1_init RX9) U ∧ va_Nw (.methodLinkNest RX9 38 yX5_init RX9) U ∧ va_Nw (.methodLinkNest RX9 49 yX8_init RX9) U ∧ va_Nw (.methodLinkNest RX8 11 yX1_init RX9) U ∧ va_Nw (.methodLinkNest RX8 27 yX3_init RX9) U
theorem mm_fa_move {g : mm_G} {u U : State} {H H' : Heap} (hW : u.WarmedH U.vm) (hq : ∀ q : Nat, q < mg_b g → H'[q]? = H[q]?) (h : mm_fa g u H) : mm_fa g U H' := by
  obtain ⟨h1, h2, h3, h4, h5, h6, h7, h8, h9, hn⟩ := h
  have hk : ∀ a : Nat, a < H.size → ¬ mm_A g a → H'[a]? = H[a]? := fun a _ ha => hq a (Nat.lt_of_not_le ha)
  refine ⟨(h1.kept (hq _ h2)).moved hW.alike, h2, h3.warm hW, (h4.kept hk).moved hW.alike, (h5.kept hk).moved hW.alike, (h6.kept hk).moved hW.alike, h7.moved hW.alike, h8.moved hW.alike, h9.moved hW.alike, ?_⟩
  obtain ⟨n0, n1, n2, n3, n4, n5⟩ := hn
  exact ⟨n0.warmM hW, n1.warmM hW, n2.warmM hW, n3.warmM hW, n4.warmM hW, n5.warmM hW⟩
/-- where a method runs: at depth d, making at most k cells behind the n0 that are -/
def mm_cx (g : mm_G) (d : Nat) (y : mm_Y) (k n0 : Nat) (p : Program) (R : Room) (s : State) (m : MethodId) (args : Array Value) (meth : Method) (c : Code) : Prop :=
  p.tables.exec = Jvm.exec ∧ c.code = y.2.1 ∧ c.maxLocals = y.2.2.1 ∧ s.vm.findClass y.1.cls = some m.cls ∧ (∀ w ∈ mm_T, w.before args s = true) ∧ va_K (mg_D g) vwCl (mm_tys g) s ∧ mm_fa g s s.heap ∧ ((y.1.name = "<init>" → meth.name = "<init>") ∧ meth.locks = false) ∧ (d + 1 ≤ R.frames ∧ 100 * (d + 1) ≤ R.locals) ∧ (k ≤ R.cells ∧ mm_zs (n0 + k) - mm_zs n0 ≤ R.slots) ∧ mg_b g + n0 = s.heap.size ∧ True
def mm_rs (g : mm_G) (v : Value) : List Value := match v with
  | .null => []
  | v => [mm_e g v]
def mm_ri (v : Value) : Instr := match v with
  | .null => .return_
  | .long _ => .lreturn
  | .int _ => .ireturn
  | _ => .areturn
def mm_rn (r : Option FieldType) (v : Value) : Prop := match r with
  | none => v = .null
  | some .long => ∃ x, v = .long x
  | some ty => ∃ x, v = .int x ∧ narrow ty (.int x) = .int x
/-- the machine, at pc of y with locals L, operands st and memory μ, comes to y's end with an answer and a memory that Q holds of -/
def mm_EV (g : mm_G) (d : Nat) (y : mm_Y) (k n0 : Nat) (pc : Nat) (L : mm_L) (st : List Value) (μ : mm_M) (Q : Value → mm_M → Prop) : Prop :=
  ∀ (p : Program) (e : Env) (s : State) (m : MethodId) (args : Array Value) (below : List Frame) (meth : Method) (c : Code) (R : Room) (Z : State → Prop), mm_cx g d y k n0 p R s m args meth c →
  (∀ (v : Value) (μ' : mm_M) (H : Heap) (locs : List Loc) (pc : Nat) (ls : Array Slot), Q v μ' → mm_rn y.2.2.2 v → mm_H g μ' H → va_S (mm_A g) s.heap H locs → decode y.2.1 pc = .ok (mm_ri v, 1) → W p (mg_l g) e R s m args below meth c H locs (mn μ' - n0) (mm_zs (mn μ') - mm_zs n0) Z (F0 m pc ls (mm_rs g v))) →
  ∀ (H : Heap) (locs : List Loc) (ls : Array Slot), mm_H g μ H → va_S (mm_A g) s.heap H locs → lv_has ls y.2.2.1 (mm_em g L) → W p (mg_l g) e R s m args below meth c H locs (mn μ - n0) (mm_zs (mn μ) - mm_zs n0) Z (F0 m pc ls (st.map (mm_e g)))
theorem mm_em_at {g : mm_G} {L : mm_L} {ls : Array Slot} {n : Nat} (h : lv_has ls n (mm_em g L)) (q : Nat) {i : Nat} {v : Value} (hq : L[q]? = some (i, v)) : ls[i]? = some (.val (mm_e g v)) := h.2.2 (i, mm_e g v) (List.mem_map.mpr ⟨(i, v), List.mem_of_getElem? hq, rfl⟩)
theorem mm_em_s1 {g : mm_G} {L : mm_L} {ls : Array Slot} {n i : Nat} {v : Value} (h : lv_has ls n ((i, mm_e g v) :: (mm_em g L).filter (fun q => !(q.1 == i) && !(q.1 + 1 == i && q.2.category == 2)))) : lv_has ls n (mm_em g (mm_s1 i v L)) := by
  refine ⟨h.1, h.2.1, fun q hq => h.2.2 q ?_⟩
  obtain ⟨⟨j, w⟩, hj, rfl⟩ := List.mem_map.mp hq
  rcases List.mem_append.mp hj with hj | hj
  · obtain ⟨h1, h2⟩ := List.mem_filter.mp hj
    refine List.mem_cons_of_mem _ (List.mem_filter.mpr ⟨List.mem_map.mpr ⟨(j, w), h1, rfl⟩, ?_⟩)
    simp only [Bool.and_eq_true, decide_eq_true_eq] at h2
    simp only [mm_cat, Bool.and_eq_true]
    exact ⟨by simp; omega, h2.2⟩
  · rcases List.mem_cons.mp hj with hj | hj
    · cases hj
      exact List.mem_cons_self
    · obtain ⟨h1, h2⟩ := List.mem_filter.mp hj
      refine List.mem_cons_of_mem _ (List.mem_filter.mpr ⟨List.mem_map.mpr ⟨(j, w), h1, rfl⟩, ?_⟩)
      simp only [decide_eq_true_eq] at h2
      simp only [Bool.and_eq_true]
      exact ⟨by simp; omega, by simp; omega⟩
theorem mm_em_s2 {g : mm_G} {L : mm_L} {ls : Array Slot} {n i : Nat} {v : Value} (h : lv_has ls n ((i, mm_e g v) :: (mm_em g L).filter (fun q => !(q.1 == i) && (!(q.1 == i + 1) && !(q.1 + 1 == i && q.2.category == 2))))) : lv_has ls n (mm_em g (mm_s2 i v L)) := by
  refine ⟨h.1, h.2.1, fun q hq => h.2.2 q ?_⟩
  obtain ⟨⟨j, w⟩, hj, rfl⟩ := List.mem_map.mp hq
  rcases List.mem_append.mp hj with hj | hj
  · obtain ⟨h1, h2⟩ := List.mem_filter.mp hj
    refine List.mem_cons_of_mem _ (List.mem_filter.mpr ⟨List.mem_map.mpr ⟨(j, w), h1, rfl⟩, ?_⟩)
    simp only [Bool.and_eq_true, decide_eq_true_eq] at h2
    simp only [mm_cat, Bool.and_eq_true]
    exact ⟨by simp; omega, by simp; omega, h2.2⟩
  · rcases List.mem_cons.mp hj with hj | hj
    · cases hj
      exact List.mem_cons_self
    · obtain ⟨h1, h2⟩ := List.mem_filter.mp hj
      refine List.mem_cons_of_mem _ (List.mem_filter.mpr ⟨List.mem_map.mpr ⟨(j, w), h1, rfl⟩, ?_⟩)
      simp only [decide_eq_true_eq] at h2
      simp only [Bool.and_eq_true]
      exact ⟨by simp; omega, by simp; omega, by simp; omega⟩
section EVR
variable {g : mm_G} {d : Nat} {y : mm_Y} {k n0 pc : Nat} {L : mm_L} {st : List Value} {μ : mm_M} {Q : Value → mm_M → Prop}
/-- fewer locals -/
theorem e_sub {L' : mm_L} (h : ∀ q ∈ L', q ∈ L) (hk : mm_EV g d y k n0 pc L' st μ Q) : mm_EV g d y k n0 pc L st μ Q := by
  intro p e s m args below meth c R Z cx hr H locs ls hH hS hl
  refine hk p e s m args below meth c R Z cx hr H locs ls hH hS ⟨hl.1, hl.2.1, fun q hq => hl.2.2 q ?_⟩
  obtain ⟨q0, h1, rfl⟩ := List.mem_map.mp hq
  exact List.mem_map.mpr ⟨q0, h _ h1, rfl⟩
theorem e_ret {v : Value} (hst : st = (match v with | .null => [] | v => [v])) (hq : Q v μ) (hn : mm_rn y.2.2.2 v) (hd : decode y.2.1 pc = .ok (mm_ri v, 1)) : mm_EV g d y k n0 pc L st μ Q := by
  intro p e s m args below meth c R Z cx hr H locs ls hH hS hl
  have := hr v μ H locs pc ls hq hn hH hS hd
  subst hst
  cases v <;> exact this
theorem e_iconst {n : Int} {v : Int32} (hd : decode y.2.1 pc = .ok (.iconst n, 1)) (hv : Int32.ofInt n = v) (hk : mm_EV g d y k n0 (pc + 1) L (.int v :: st) μ Q) : mm_EV g d y k n0 pc L (st) μ Q := by
  intro p e s m args below meth c R Z cx hr H locs ls hH hS hl
  exact lv_iconst cx.1 cx.2.1 hd hv (hk p e s m args below meth c R Z cx hr H locs ls hH hS hl)
theorem e_bipush {n : Int} {v : Int32} (hd : decode y.2.1 pc = .ok (.bipush n, 2)) (hv : (Int8.ofInt n).toInt32 = v) (hk : mm_EV g d y k n0 (pc + 2) L (.int v :: st) μ Q) : mm_EV g d y k n0 pc L (st) μ Q := by
  intro p e s m args below meth c R Z cx hr H locs ls hH hS hl
  exact lv_bipush cx.1 cx.2.1 hd hv (hk p e s m args below meth c R Z cx hr H locs ls hH hS hl)
theorem e_sipush {n : Int} {v : Int32} (hd : decode y.2.1 pc = .ok (.sipush n, 3)) (hv : (Int16.ofInt n).toInt32 = v) (hk : mm_EV g d y k n0 (pc + 3) L (.int v :: st) μ Q) : mm_EV g d y k n0 pc L (st) μ Q := by
  intro p e s m args below meth c R Z cx hr H locs ls hH hS hl
  exact lv_sipush cx.1 cx.2.1 hd hv (hk p e s m args below meth c R Z cx hr H locs ls hH hS hl)
theorem e_lconst {n : Fin 2} {v : Int64} (hd : decode y.2.1 pc = .ok (.lconst n, 1)) (hv : Int64.ofNat (n : Nat) = v) (hk : mm_EV g d y k n0 (pc + 1) L (.long v :: st) μ Q) : mm_EV g d y k n0 pc L (st) μ Q := by
  intro p e s m args below meth c R Z cx hr H locs ls hH hS hl
  exact lv_lconst cx.1 cx.2.1 hd hv (hk p e s m args below meth c R Z cx hr H locs ls hH hS hl)
theorem e_iload_n (q : Nat) {j : Fin 4} {i : Nat} {x : Int32} (hd : decode y.2.1 pc = .ok (.iload_n j, 1)) (hi : (j : Nat) = i) (hq : L[q]? = some (i, .int x)) (hk : mm_EV g d y k n0 (pc + 1) L (.int x :: st) μ Q) : mm_EV g d y k n0 pc L (st) μ Q := by
  intro p e s m args below meth c R Z cx hr H locs ls hH hS hl
  exact lv_iload_n cx.1 cx.2.1 hd hi (mm_em_at hl q hq) (hk p e s m args below meth c R Z cx hr H locs ls hH hS hl)
theorem e_iload (q : Nat) {i : Nat} {x : Int32} (hd : decode y.2.1 pc = .ok (.iload i, 2)) (hq : L[q]? = some (i, .int x)) (hk : mm_EV g d y k n0 (pc + 2) L (.int x :: st) μ Q) : mm_EV g d y k n0 pc L (st) μ Q := by
  intro p e s m args below meth c R Z cx hr H locs ls hH hS hl
  exact lv_iload cx.1 cx.2.1 hd (mm_em_at hl q hq) (hk p e s m args below meth c R Z cx hr H locs ls hH hS hl)
theorem e_lload_n (q : Nat) {j : Fin 4} {i : Nat} {x : Int64} (hd : decode y.2.1 pc = .ok (.lload_n j, 1)) (hi : (j : Nat) = i) (hq : L[q]? = some (i, .long x)) (hk : mm_EV g d y k n0 (pc + 1) L (.long x :: st) μ Q) : mm_EV g d y k n0 pc L (st) μ Q := by
  intro p e s m args below meth c R Z cx hr H locs ls hH hS hl
  exact lv_lload_n cx.1 cx.2.1 hd hi (mm_em_at hl q hq) (hk p e s m args below meth c R Z cx hr H locs ls hH hS hl)
theorem e_lload (q : Nat) {i : Nat} {x : Int64} (hd : decode y.2.1 pc = .ok (.lload i, 2)) (hq : L[q]? = some (i, .long x)) (hk : mm_EV g d y k n0 (pc + 2) L (.long x :: st) μ Q) : mm_EV g d y k n0 pc L (st) μ Q := by
  intro p e s m args below meth c R Z cx hr H locs ls hH hS hl
  exact lv_lload cx.1 cx.2.1 hd (mm_em_at hl q hq) (hk p e s m args below meth c R Z cx hr H locs ls hH hS hl)
theorem e_aload_n (q : Nat) {j : Fin 4} {i : Nat} {x : Nat} (hd : decode y.2.1 pc = .ok (.aload_n j, 1)) (hi : (j : Nat) = i) (hq : L[q]? = some (i, .ref x)) (hk : mm_EV g d y k n0 (pc + 1) L (.ref x :: st) μ Q) : mm_EV g d y k n0 pc L (st) μ Q := by
  intro p e s m args below meth c R Z cx hr H locs ls hH hS hl
  exact lv_aload_n cx.1 cx.2.1 hd hi (mm_em_at hl q hq) (hk p e s m args below meth c R Z cx hr H locs ls hH hS hl)
theorem e_aload (q : Nat) {i : Nat} {x : Nat} (hd : decode y.2.1 pc = .ok (.aload i, 2)) (hq : L[q]? = some (i, .ref x)) (hk : mm_EV g d y k n0 (pc + 2) L (.ref x :: st) μ Q) : mm_EV g d y k n0 pc L (st) μ Q := by
  intro p e s m args below meth c R Z cx hr H locs ls hH hS hl
  exact lv_aload cx.1 cx.2.1 hd (mm_em_at hl q hq) (hk p e s m args below meth c R Z cx hr H locs ls hH hS hl)
theorem e_aload_nS (q : Nat) {j : Fin 4} {i : Nat}  (hd : decode y.2.1 pc = .ok (.aload_n j, 1)) (hi : (j : Nat) = i) (hq : L[q]? = some (i, .retAddr 0)) (hk : mm_EV g d y k n0 (pc + 1) L (.retAddr 0 :: st) μ Q) : mm_EV g d y k n0 pc L (st) μ Q := by
  intro p e s m args below meth c R Z cx hr H locs ls hH hS hl
  exact lv_aload_n cx.1 cx.2.1 hd hi (mm_em_at hl q hq) (hk p e s m args below meth c R Z cx hr H locs ls hH hS hl)
theorem e_aloadS (q : Nat) {i : Nat}  (hd : decode y.2.1 pc = .ok (.aload i, 2)) (hq : L[q]? = some (i, .retAddr 0)) (hk : mm_EV g d y k n0 (pc + 2) L (.retAddr 0 :: st) μ Q) : mm_EV g d y k n0 pc L (st) μ Q := by
  intro p e s m args below meth c R Z cx hr H locs ls hH hS hl
  exact lv_aload cx.1 cx.2.1 hd (mm_em_at hl q hq) (hk p e s m args below meth c R Z cx hr H locs ls hH hS hl)
theorem e_istore_n {j : Fin 4} {i : Nat} {x : Int32} {L' : mm_L} (hd : decode y.2.1 pc = .ok (.istore_n j, 1)) (hi : (j : Nat) = i) (hn : i < y.2.2.1) (hL : mm_s1 i (.int x) L = L') (hk : mm_EV g d y k n0 (pc + 1) L' st μ Q) : mm_EV g d y k n0 pc L (.int x :: st) μ Q := by
  intro p e s m args below meth c R Z cx hr H locs ls hH hS hl
  subst hL
  exact lv_istore_n cx.1 cx.2.1 hd hi hl hn rfl (fun ls' hl' => hk p e s m args below meth c R Z cx hr H locs ls' hH hS (mm_em_s1 (v := .int x) hl'))
theorem e_istore  {i : Nat} {x : Int32} {L' : mm_L} (hd : decode y.2.1 pc = .ok (.istore i, 2))  (hn : i < y.2.2.1) (hL : mm_s1 i (.int x) L = L') (hk : mm_EV g d y k n0 (pc + 2) L' st μ Q) : mm_EV g d y k n0 pc L (.int x :: st) μ Q := by
  intro p e s m args below meth c R Z cx hr H locs ls hH hS hl
  subst hL
  exact lv_istore cx.1 cx.2.1 hd hl hn rfl (fun ls' hl' => hk p e s m args below meth c R Z cx hr H locs ls' hH hS (mm_em_s1 (v := .int x) hl'))
theorem e_lstore_n {j : Fin 4} {i : Nat} {x : Int64} {L' : mm_L} (hd : decode y.2.1 pc = .ok (.lstore_n j, 1)) (hi : (j : Nat) = i) (hn : i + 1 < y.2.2.1) (hL : mm_s2 i (.long x) L = L') (hk : mm_EV g d y k n0 (pc + 1) L' st μ Q) : mm_EV g d y k n0 pc L (.long x :: st) μ Q := by
  intro p e s m args below meth c R Z cx hr H locs ls hH hS hl
  subst hL
  exact lv_lstore_n cx.1 cx.2.1 hd hi hl hn rfl (fun ls' hl' => hk p e s m args below meth c R Z cx hr H locs ls' hH hS (mm_em_s2 (v := .long x) hl'))
theorem e_lstore  {i : Nat} {x : Int64} {L' : mm_L} (hd : decode y.2.1 pc = .ok (.lstore i, 2))  (hn : i + 1 < y.2.2.1) (hL : mm_s2 i (.long x) L = L') (hk : mm_EV g d y k n0 (pc + 2) L' st μ Q) : mm_EV g d y k n0 pc L (.long x :: st) μ Q := by
  intro p e s m args below meth c R Z cx hr H locs ls hH hS hl
  subst hL
  exact lv_lstore cx.1 cx.2.1 hd hl hn rfl (fun ls' hl' => hk p e s m args below meth c R Z cx hr H locs ls' hH hS (mm_em_s2 (v := .long x) hl'))
theorem e_astore_n {j : Fin 4} {i : Nat} {x : Nat} {L' : mm_L} (hd : decode y.2.1 pc = .ok (.astore_n j, 1)) (hi : (j : Nat) = i) (hn : i < y.2.2.1) (hL : mm_s1 i (.ref x) L = L') (hk : mm_EV g d y k n0 (pc + 1) L' st μ Q) : mm_EV g d y k n0 pc L (.ref x :: st) μ Q := by
  intro p e s m args below meth c R Z cx hr H locs ls hH hS hl
  subst hL
  exact lv_astore_n cx.1 cx.2.1 hd hi hl hn rfl (fun ls' hl' => hk p e s m args below meth c R Z cx hr H locs ls' hH hS (mm_em_s1 (v := .ref x) hl'))
theorem e_astore  {i : Nat} {x : Nat} {L' : mm_L} (hd : decode y.2.1 pc = .ok (.astore i, 2))  (hn : i < y.2.2.1) (hL : mm_s1 i (.ref x) L = L') (hk : mm_EV g d y k n0 (pc + 2) L' st μ Q) : mm_EV g d y k n0 pc L (.ref x :: st) μ Q := by
  intro p e s m args below meth c R Z cx hr H locs ls hH hS hl
  subst hL
  exact lv_astore cx.1 cx.2.1 hd hl hn rfl (fun ls' hl' => hk p e s m args below meth c R Z cx hr H locs ls' hH hS (mm_em_s1 (v := .ref x) hl'))
theorem mm_em_ix {g : mm_G} {L : mm_L} {q i : Nat} {v : Value} (hq : L[q]? = some (i, v)) : (mm_em g L)[q]? = some (i, mm_e g v) := by
  unfold mm_em
  rw [List.getElem?_map, hq]
  rfl
theorem e_iinc (q : Nat) {i : Nat} {x v : Int32} {n : Int} {L' : mm_L} (hd : decode y.2.1 pc = .ok (.iinc i n, 3)) (hq : L[q]? = some (i, .int x)) (hv : x + Int32.ofInt n = v) (hn : i < y.2.2.1) (hL : mm_s1 i (.int v) L = L') (hk : mm_EV g d y k n0 (pc + 3) L' st μ Q) : mm_EV g d y k n0 pc L st μ Q := by
  intro p e s m args below meth c R Z cx hr H locs ls hH hS hl
  subst hL
  exact lv_iinc cx.1 cx.2.1 hd hl (mm_em_ix hq) hv hn rfl (fun ls' hl' => hk p e s m args below meth c R Z cx hr H locs ls' hH hS (mm_em_s1 (v := .int v) hl'))
theorem e_iadd {x y' : Int32} (hd : decode y.2.1 pc = .ok (.iadd, 1))  (hk : mm_EV g d y k n0 (pc + 1) L (.int (x + y') :: st) μ Q) : mm_EV g d y k n0 pc L (.int y' :: .int x :: st) μ Q := by
  intro p e s m args below meth c R Z cx hr H locs ls hH hS hl
  exact lv_iadd cx.1 cx.2.1 hd (hk p e s m args below meth c R Z cx hr H locs ls hH hS hl)
theorem e_isub {x y' : Int32} (hd : decode y.2.1 pc = .ok (.isub, 1))  (hk : mm_EV g d y k n0 (pc + 1) L (.int (x - y') :: st) μ Q) : mm_EV g d y k n0 pc L (.int y' :: .int x :: st) μ Q := by
  intro p e s m args below meth c R Z cx hr H locs ls hH hS hl
  exact lv_isub cx.1 cx.2.1 hd (hk p e s m args below meth c R Z cx hr H locs ls hH hS hl)
theorem e_imul {x y' : Int32} (hd : decode y.2.1 pc = .ok (.imul, 1))  (hk : mm_EV g d y k n0 (pc + 1) L (.int (x * y') :: st) μ Q) : mm_EV g d y k n0 pc L (.int y' :: .int x :: st) μ Q := by
  intro p e s m args below meth c R Z cx hr H locs ls hH hS hl
  exact lv_imul cx.1 cx.2.1 hd (hk p e s m args below meth c R Z cx hr H locs ls hH hS hl)
theorem e_iand {x y' : Int32} (hd : decode y.2.1 pc = .ok (.iand, 1))  (hk : mm_EV g d y k n0 (pc + 1) L (.int (x &&& y') :: st) μ Q) : mm_EV g d y k n0 pc L (.int y' :: .int x :: st) μ Q := by
  intro p e s m args below meth c R Z cx hr H locs ls hH hS hl
  exact lv_iand cx.1 cx.2.1 hd (hk p e s m args below meth c R Z cx hr H locs ls hH hS hl)
theorem e_ior {x y' : Int32} (hd : decode y.2.1 pc = .ok (.ior, 1))  (hk : mm_EV g d y k n0 (pc + 1) L (.int (x ||| y') :: st) μ Q) : mm_EV g d y k n0 pc L (.int y' :: .int x :: st) μ Q := by
  intro p e s m args below meth c R Z cx hr H locs ls hH hS hl
  exact lv_ior cx.1 cx.2.1 hd (hk p e s m args below meth c R Z cx hr H locs ls hH hS hl)
theorem e_ixor {x y' : Int32} (hd : decode y.2.1 pc = .ok (.ixor, 1))  (hk : mm_EV g d y k n0 (pc + 1) L (.int (x ^^^ y') :: st) μ Q) : mm_EV g d y k n0 pc L (.int y' :: .int x :: st) μ Q := by
  intro p e s m args below meth c R Z cx hr H locs ls hH hS hl
  exact lv_ixor cx.1 cx.2.1 hd (hk p e s m args below meth c R Z cx hr H locs ls hH hS hl)
theorem e_ishl {x y' : Int32} (hd : decode y.2.1 pc = .ok (.ishl, 1))  (hk : mm_EV g d y k n0 (pc + 1) L (.int (x <<< (y' &&& 31)) :: st) μ Q) : mm_EV g d y k n0 pc L (.int y' :: .int x :: st) μ Q := by
  intro p e s m args below meth c R Z cx hr H locs ls hH hS hl
  exact lv_ishl cx.1 cx.2.1 hd (hk p e s m args below meth c R Z cx hr H locs ls hH hS hl)
theorem e_ishr {x y' : Int32} (hd : decode y.2.1 pc = .ok (.ishr, 1))  (hk : mm_EV g d y k n0 (pc + 1) L (.int (x >>> (y' &&& 31)) :: st) μ Q) : mm_EV g d y k n0 pc L (.int y' :: .int x :: st) μ Q := by
  intro p e s m args below meth c R Z cx hr H locs ls hH hS hl
  exact lv_ishr cx.1 cx.2.1 hd (hk p e s m args below meth c R Z cx hr H locs ls hH hS hl)
theorem e_idiv {x y' : Int32} (hd : decode y.2.1 pc = .ok (.idiv, 1)) (hne : ¬ y' = 0) (hk : mm_EV g d y k n0 (pc + 1) L (.int (x / y') :: st) μ Q) : mm_EV g d y k n0 pc L (.int y' :: .int x :: st) μ Q := by
  intro p e s m args below meth c R Z cx hr H locs ls hH hS hl
  exact lv_idiv cx.1 cx.2.1 hd hne (hk p e s m args below meth c R Z cx hr H locs ls hH hS hl)
theorem e_irem {x y' : Int32} (hd : decode y.2.1 pc = .ok (.irem, 1)) (hne : ¬ y' = 0) (hk : mm_EV g d y k n0 (pc + 1) L (.int (x - x / y' * y') :: st) μ Q) : mm_EV g d y k n0 pc L (.int y' :: .int x :: st) μ Q := by
  intro p e s m args below meth c R Z cx hr H locs ls hH hS hl
  exact lv_irem cx.1 cx.2.1 hd hne (hk p e s m args below meth c R Z cx hr H locs ls hH hS hl)
theorem e_iushr {x y' v : Int32} (hd : decode y.2.1 pc = .ok (.iushr, 1)) (hv : (x.toUInt32 >>> (y'.toUInt32 &&& Int32.toUInt32 31)).toInt32 = v) (hk : mm_EV g d y k n0 (pc + 1) L (.int v :: st) μ Q) : mm_EV g d y k n0 pc L (.int y' :: .int x :: st) μ Q := by
  intro p e s m args below meth c R Z cx hr H locs ls hH hS hl
  exact lv_iushr cx.1 cx.2.1 hd hv (hk p e s m args below meth c R Z cx hr H locs ls hH hS hl)
theorem e_ineg {x : Int32} (hd : decode y.2.1 pc = .ok (.ineg, 1))  (hk : mm_EV g d y k n0 (pc + 1) L (.int (-x) :: st) μ Q) : mm_EV g d y k n0 pc L (.int x :: st) μ Q := by
  intro p e s m args below meth c R Z cx hr H locs ls hH hS hl
  exact lv_ineg cx.1 cx.2.1 hd (hk p e s m args below meth c R Z cx hr H locs ls hH hS hl)
theorem e_ladd {x y' : Int64} (hd : decode y.2.1 pc = .ok (.ladd, 1))  (hk : mm_EV g d y k n0 (pc + 1) L (.long (x + y') :: st) μ Q) : mm_EV g d y k n0 pc L (.long y' :: .long x :: st) μ Q := by
  intro p e s m args below meth c R Z cx hr H locs ls hH hS hl
  exact lv_ladd cx.1 cx.2.1 hd (hk p e s m args below meth c R Z cx hr H locs ls hH hS hl)
theorem e_lsub {x y' : Int64} (hd : decode y.2.1 pc = .ok (.lsub, 1))  (hk : mm_EV g d y k n0 (pc + 1) L (.long (x - y') :: st) μ Q) : mm_EV g d y k n0 pc L (.long y' :: .long x :: st) μ Q := by
  intro p e s m args below meth c R Z cx hr H locs ls hH hS hl
  exact lv_lsub cx.1 cx.2.1 hd (hk p e s m args below meth c R Z cx hr H locs ls hH hS hl)
theorem e_lmul {x y' : Int64} (hd : decode y.2.1 pc = .ok (.lmul, 1))  (hk : mm_EV g d y k n0 (pc + 1) L (.long (x * y') :: st) μ Q) : mm_EV g d y k n0 pc L (.long y' :: .long x :: st) μ Q := by
  intro p e s m args below meth c R Z cx hr H locs ls hH hS hl
  exact lv_lmul cx.1 cx.2.1 hd (hk p e s m args below meth c R Z cx hr H locs ls hH hS hl)
theorem e_land {x y' : Int64} (hd : decode y.2.1 pc = .ok (.land, 1))  (hk : mm_EV g d y k n0 (pc + 1) L (.long (x &&& y') :: st) μ Q) : mm_EV g d y k n0 pc L (.long y' :: .long x :: st) μ Q := by
  intro p e s m args below meth c R Z cx hr H locs ls hH hS hl
  exact lv_land cx.1 cx.2.1 hd (hk p e s m args below meth c R Z cx hr H locs ls hH hS hl)
theorem e_lor {x y' : Int64} (hd : decode y.2.1 pc = .ok (.lor, 1))  (hk : mm_EV g d y k n0 (pc + 1) L (.long (x ||| y') :: st) μ Q) : mm_EV g d y k n0 pc L (.long y' :: .long x :: st) μ Q := by
  intro p e s m args below meth c R Z cx hr H locs ls hH hS hl
  exact lv_lor cx.1 cx.2.1 hd (hk p e s m args below meth c R Z cx hr H locs ls hH hS hl)
theorem e_ldiv {x y' : Int64} (hd : decode y.2.1 pc = .ok (.ldiv, 1)) (hne : ¬ y' = 0) (hk : mm_EV g d y k n0 (pc + 1) L (.long (x / y') :: st) μ Q) : mm_EV g d y k n0 pc L (.long y' :: .long x :: st) μ Q := by
  intro p e s m args below meth c R Z cx hr H locs ls hH hS hl
  exact lv_ldiv cx.1 cx.2.1 hd hne (hk p e s m args below meth c R Z cx hr H locs ls hH hS hl)
theorem e_lrem {x y' : Int64} (hd : decode y.2.1 pc = .ok (.lrem, 1)) (hne : ¬ y' = 0) (hk : mm_EV g d y k n0 (pc + 1) L (.long (x - x / y' * y') :: st) μ Q) : mm_EV g d y k n0 pc L (.long y' :: .long x :: st) μ Q := by
  intro p e s m args below meth c R Z cx hr H locs ls hH hS hl
  exact lv_lrem cx.1 cx.2.1 hd hne (hk p e s m args below meth c R Z cx hr H locs ls hH hS hl)
theorem e_lshl {x : Int64} {y' : Int32} (hd : decode y.2.1 pc = .ok (.lshl, 1))  (hk : mm_EV g d y k n0 (pc + 1) L (.long (x <<< (y'.toInt64 &&& 63)) :: st) μ Q) : mm_EV g d y k n0 pc L (.int y' :: .long x :: st) μ Q := by
  intro p e s m args below meth c R Z cx hr H locs ls hH hS hl
  exact lv_lshl cx.1 cx.2.1 hd rfl (hk p e s m args below meth c R Z cx hr H locs ls hH hS hl)
theorem e_lcmp {x y' : Int64} (hd : decode y.2.1 pc = .ok (.lcmp, 1))  (hk : mm_EV g d y k n0 (pc + 1) L (.int (lg_cmp x y') :: st) μ Q) : mm_EV g d y k n0 pc L (.long y' :: .long x :: st) μ Q := by
  intro p e s m args below meth c R Z cx hr H locs ls hH hS hl
  exact W.lcmp cx.1 cx.2.1 hd (hk p e s m args below meth c R Z cx hr H locs ls hH hS hl)
theorem e_i2l {x : Int32} (hd : decode y.2.1 pc = .ok (.i2l, 1))  (hk : mm_EV g d y k n0 (pc + 1) L (.long x.toInt64 :: st) μ Q) : mm_EV g d y k n0 pc L (.int x :: st) μ Q := by
  intro p e s m args below meth c R Z cx hr H locs ls hH hS hl
  exact lv_i2l cx.1 cx.2.1 hd rfl (hk p e s m args below meth c R Z cx hr H locs ls hH hS hl)
theorem e_l2i {x : Int64} (hd : decode y.2.1 pc = .ok (.l2i, 1))  (hk : mm_EV g d y k n0 (pc + 1) L (.int x.toInt32 :: st) μ Q) : mm_EV g d y k n0 pc L (.long x :: st) μ Q := by
  intro p e s m args below meth c R Z cx hr H locs ls hH hS hl
  exact lv_l2i cx.1 cx.2.1 hd rfl (hk p e s m args below meth c R Z cx hr H locs ls hH hS hl)
theorem e_i2b {x : Int32} (hd : decode y.2.1 pc = .ok (.i2b, 1))  (hk : mm_EV g d y k n0 (pc + 1) L (.int x.toInt8.toInt32 :: st) μ Q) : mm_EV g d y k n0 pc L (.int x :: st) μ Q := by
  intro p e s m args below meth c R Z cx hr H locs ls hH hS hl
  exact lv_i2b cx.1 cx.2.1 hd rfl (hk p e s m args below meth c R Z cx hr H locs ls hH hS hl)
theorem e_dup {v : Value} (hd : decode y.2.1 pc = .ok (.dup, 1)) (hv : v.category = 1) (hk : mm_EV g d y k n0 (pc + 1) L (v :: v :: st) μ Q) : mm_EV g d y k n0 pc L (v :: st) μ Q := by
  intro p e s m args below meth c R Z cx hr H locs ls hH hS hl
  exact lv_dup cx.1 cx.2.1 hd ((mm_cat g v).trans hv) (hk p e s m args below meth c R Z cx hr H locs ls hH hS hl)
theorem e_pop {v : Value} (hd : decode y.2.1 pc = .ok (.pop, 1)) (hv : v.category = 1) (hk : mm_EV g d y k n0 (pc + 1) L (st) μ Q) : mm_EV g d y k n0 pc L (v :: st) μ Q := by
  intro p e s m args below meth c R Z cx hr H locs ls hH hS hl
  exact lv_pop cx.1 cx.2.1 hd ((mm_cat g v).trans hv) (hk p e s m args below meth c R Z cx hr H locs ls hH hS hl)
theorem e_dup2 {v w : Value} (hd : decode y.2.1 pc = .ok (.dup2, 1)) (hv : v.category = 1) (hw : w.category = 1) (hk : mm_EV g d y k n0 (pc + 1) L (v :: w :: v :: w :: st) μ Q) : mm_EV g d y k n0 pc L (v :: w :: st) μ Q := by
  intro p e s m args below meth c R Z cx hr H locs ls hH hS hl
  exact lv_dup2_11 cx.1 cx.2.1 hd ((mm_cat g v).trans hv) ((mm_cat g w).trans hw) (hk p e s m args below meth c R Z cx hr H locs ls hH hS hl)
theorem e_dup_x1 {v w : Value} (hd : decode y.2.1 pc = .ok (.dup_x1, 1)) (hv : v.category = 1) (hw : w.category = 1) (hk : mm_EV g d y k n0 (pc + 1) L (v :: w :: v :: st) μ Q) : mm_EV g d y k n0 pc L (v :: w :: st) μ Q := by
  intro p e s m args below meth c R Z cx hr H locs ls hH hS hl
  exact lv_dup_x1 cx.1 cx.2.1 hd ((mm_cat g v).trans hv) ((mm_cat g w).trans hw) (hk p e s m args below meth c R Z cx hr H locs ls hH hS hl)
theorem e_goto (t : Nat) {off : Int} (hd : decode y.2.1 pc = .ok (.goto off, 3)) (ht : (pc : Int) + off = (t : Int)) (hk : mm_EV g d y k n0 t L st μ Q) : mm_EV g d y k n0 pc L st μ Q := by
  intro p e s m args below meth c R Z cx hr H locs ls hH hS hl
  exact lv_goto cx.1 cx.2.1 hd ht (hk p e s m args below meth c R Z cx hr H locs ls hH hS hl)
theorem e_if_eq (t : Nat) {x : Int32} {off : Int} (hd : decode y.2.1 pc = .ok (.ifCond .eq off, 3)) (ht : (pc : Int) + off = (t : Int)) (kt : x = 0 → mm_EV g d y k n0 t L st μ Q) (kf : ¬ x = 0 → mm_EV g d y k n0 (pc + 3) L st μ Q) : mm_EV g d y k n0 pc L (.int x :: st) μ Q := by
  intro p e s m args below meth c R Z cx hr H locs ls hH hS hl
  exact lv_if_eq cx.1 cx.2.1 hd ht (fun q => kt q p e s m args below meth c R Z cx hr H locs ls hH hS hl) (fun q => kf q p e s m args below meth c R Z cx hr H locs ls hH hS hl)
theorem e_icmp_eq (t : Nat) {x y' : Int32} {off : Int} (hd : decode y.2.1 pc = .ok (.if_icmp .eq off, 3)) (ht : (pc : Int) + off = (t : Int)) (kt : x = y' → mm_EV g d y k n0 t L st μ Q) (kf : ¬ x = y' → mm_EV g d y k n0 (pc + 3) L st μ Q) : mm_EV g d y k n0 pc L (.int y' :: .int x :: st) μ Q := by
  intro p e s m args below meth c R Z cx hr H locs ls hH hS hl
  exact lv_icmp_eq cx.1 cx.2.1 hd ht (fun q => kt q p e s m args below meth c R Z cx hr H locs ls hH hS hl) (fun q => kf q p e s m args below meth c R Z cx hr H locs ls hH hS hl)
theorem e_if_ne (t : Nat) {x : Int32} {off : Int} (hd : decode y.2.1 pc = .ok (.ifCond .ne off, 3)) (ht : (pc : Int) + off = (t : Int)) (kt : ¬ x = 0 → mm_EV g d y k n0 t L st μ Q) (kf : x = 0 → mm_EV g d y k n0 (pc + 3) L st μ Q) : mm_EV g d y k n0 pc L (.int x :: st) μ Q := by
  intro p e s m args below meth c R Z cx hr H locs ls hH hS hl
  exact lv_if_ne cx.1 cx.2.1 hd ht (fun q => kt q p e s m args below meth c R Z cx hr H locs ls hH hS hl) (fun q => kf q p e s m args below meth c R Z cx hr H locs ls hH hS hl)
theorem e_icmp_ne (t : Nat) {x y' : Int32} {off : Int} (hd : decode y.2.1 pc = .ok (.if_icmp .ne off, 3)) (ht : (pc : Int) + off = (t : Int)) (kt : ¬ x = y' → mm_EV g d y k n0 t L st μ Q) (kf : x = y' → mm_EV g d y k n0 (pc + 3) L st μ Q) : mm_EV g d y k n0 pc L (.int y' :: .int x :: st) μ Q := by
  intro p e s m args below meth c R Z cx hr H locs ls hH hS hl
  exact lv_icmp_ne cx.1 cx.2.1 hd ht (fun q => kt q p e s m args below meth c R Z cx hr H locs ls hH hS hl) (fun q => kf q p e s m args below meth c R Z cx hr H locs ls hH hS hl)
theorem e_if_lt (t : Nat) {x : Int32} {off : Int} (hd : decode y.2.1 pc = .ok (.ifCond .lt off, 3)) (ht : (pc : Int) + off = (t : Int)) (kt : x < 0 → mm_EV g d y k n0 t L st μ Q) (kf : ¬ x < 0 → mm_EV g d y k n0 (pc + 3) L st μ Q) : mm_EV g d y k n0 pc L (.int x :: st) μ Q := by
  intro p e s m args below meth c R Z cx hr H locs ls hH hS hl
  exact lv_if_lt cx.1 cx.2.1 hd ht (fun q => kt q p e s m args below meth c R Z cx hr H locs ls hH hS hl) (fun q => kf q p e s m args below meth c R Z cx hr H locs ls hH hS hl)
theorem e_icmp_lt (t : Nat) {x y' : Int32} {off : Int} (hd : decode y.2.1 pc = .ok (.if_icmp .lt off, 3)) (ht : (pc : Int) + off = (t : Int)) (kt : x < y' → mm_EV g d y k n0 t L st μ Q) (kf : ¬ x < y' → mm_EV g d y k n0 (pc + 3) L st μ Q) : mm_EV g d y k n0 pc L (.int y' :: .int x :: st) μ Q := by
  intro p e s m args below meth c R Z cx hr H locs ls hH hS hl
  exact lv_icmp_lt cx.1 cx.2.1 hd ht (fun q => kt q p e s m args below meth c R Z cx hr H locs ls hH hS hl) (fun q => kf q p e s m args below meth c R Z cx hr H locs ls hH hS hl)
theorem e_if_ge (t : Nat) {x : Int32} {off : Int} (hd : decode y.2.1 pc = .ok (.ifCond .ge off, 3)) (ht : (pc : Int) + off = (t : Int)) (kt : 0 ≤ x → mm_EV g d y k n0 t L st μ Q) (kf : ¬ 0 ≤ x → mm_EV g d y k n0 (pc + 3) L st μ Q) : mm_EV g d y k n0 pc L (.int x :: st) μ Q := by
  intro p e s m args below meth c R Z cx hr H locs ls hH hS hl
  exact lv_if_ge cx.1 cx.2.1 hd ht (fun q => kt q p e s m args below meth c R Z cx hr H locs ls hH hS hl) (fun q => kf q p e s m args below meth c R Z cx hr H locs ls hH hS hl)
theorem e_icmp_ge (t : Nat) {x y' : Int32} {off : Int} (hd : decode y.2.1 pc = .ok (.if_icmp .ge off, 3)) (ht : (pc : Int) + off = (t : Int)) (kt : y' ≤ x → mm_EV g d y k n0 t L st μ Q) (kf : ¬ y' ≤ x → mm_EV g d y k n0 (pc + 3) L st μ Q) : mm_EV g d y k n0 pc L (.int y' :: .int x :: st) μ Q := by
  intro p e s m args below meth c R Z cx hr H locs ls hH hS hl
  exact lv_icmp_ge cx.1 cx.2.1 hd ht (fun q => kt q p e s m args below meth c R Z cx hr H locs ls hH hS hl) (fun q => kf q p e s m args below meth c R Z cx hr H locs ls hH hS hl)
theorem e_if_gt (t : Nat) {x : Int32} {off : Int} (hd : decode y.2.1 pc = .ok (.ifCond .gt off, 3)) (ht : (pc : Int) + off = (t : Int)) (kt : 0 < x → mm_EV g d y k n0 t L st μ Q) (kf : ¬ 0 < x → mm_EV g d y k n0 (pc + 3) L st μ Q) : mm_EV g d y k n0 pc L (.int x :: st) μ Q := by
  intro p e s m args below meth c R Z cx hr H locs ls hH hS hl
  exact lv_if_gt cx.1 cx.2.1 hd ht (fun q => kt q p e s m args below meth c R Z cx hr H locs ls hH hS hl) (fun q => kf q p e s m args below meth c R Z cx hr H locs ls hH hS hl)
theorem e_icmp_gt (t : Nat) {x y' : Int32} {off : Int} (hd : decode y.2.1 pc = .ok (.if_icmp .gt off, 3)) (ht : (pc : Int) + off = (t : Int)) (kt : y' < x → mm_EV g d y k n0 t L st μ Q) (kf : ¬ y' < x → mm_EV g d y k n0 (pc + 3) L st μ Q) : mm_EV g d y k n0 pc L (.int y' :: .int x :: st) μ Q := by
  intro p e s m args below meth c R Z cx hr H locs ls hH hS hl
  exact lv_icmp_gt cx.1 cx.2.1 hd ht (fun q => kt q p e s m args below meth c R Z cx hr H locs ls hH hS hl) (fun q => kf q p e s m args below meth c R Z cx hr H locs ls hH hS hl)
theorem e_if_le (t : Nat) {x : Int32} {off : Int} (hd : decode y.2.1 pc = .ok (.ifCond .le off, 3)) (ht : (pc : Int) + off = (t : Int)) (kt : x ≤ 0 → mm_EV g d y k n0 t L st μ Q) (kf : ¬ x ≤ 0 → mm_EV g d y k n0 (pc + 3) L st μ Q) : mm_EV g d y k n0 pc L (.int x :: st) μ Q := by
  intro p e s m args below meth c R Z cx hr H locs ls hH hS hl
  exact lv_if_le cx.1 cx.2.1 hd ht (fun q => kt q p e s m args below meth c R Z cx hr H locs ls hH hS hl) (fun q => kf q p e s m args below meth c R Z cx hr H locs ls hH hS hl)
theorem e_icmp_le (t : Nat) {x y' : Int32} {off : Int} (hd : decode y.2.1 pc = .ok (.if_icmp .le off, 3)) (ht : (pc : Int) + off = (t : Int)) (kt : x ≤ y' → mm_EV g d y k n0 t L st μ Q) (kf : ¬ x ≤ y' → mm_EV g d y k n0 (pc + 3) L st μ Q) : mm_EV g d y k n0 pc L (.int y' :: .int x :: st) μ Q := by
  intro p e s m args below meth c R Z cx hr H locs ls hH hS hl
  exact lv_icmp_le cx.1 cx.2.1 hd ht (fun q => kt q p e s m args below meth c R Z cx hr H locs ls hH hS hl) (fun q => kf q p e s m args below meth c R Z cx hr H locs ls hH hS hl)
end EVR
