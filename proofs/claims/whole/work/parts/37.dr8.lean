/-! what a row of codes does; sums in step -/
def jn (c : Int32) (x y : Int64) : Int64 :=
  if c = 20 then x + y else if c = 21 then x - y else if c = 22 then x * y else if c = 23 then (if y = 0 then 0 else x / y) else if c = 24 then (if y = 0 then 0 else x - x / y * y) else
  if c = 25 then (if x < y then 1 else 0) else if c = 26 then (if y < x then 0 else 1) else if c = 27 then (if x = y then 1 else 0) else if c = 28 then (if x < y then 0 else 1) else if c = 29 then (if y < x then 1 else 0) else
  if c = 31 then x &&& y else x ||| y
def cst (w : Nat → Int64) (B : Nat) (c : Int32) (S : List Int64) : Option (List Int64) :=
  if c < 0 ∨ 100040 ≤ c then none
  else if 40 ≤ c then (if S.length < B then some ((c - 40).toInt64 :: S) else none)
  else if c < 13 then (if S.length < B then some (w c.toNatClampNeg :: S) else none)
  else if c = 30 then (match S with | x :: S' => some ((1 - x) :: S') | [] => none)
  else if 20 ≤ c ∧ c ≤ 32 then (match S with | y :: x :: S' => some (jn c x y :: S') | _ => none)
  else none
def crn (w : Nat → Int64) (B : Nat) : List Int32 → List Int64 → Option (List Int64)
  | [], S => some S
  | c :: l, S => (cst w B c S).bind (crn w B l)
theorem crn_app (w : Nat → Int64) (B : Nat) : ∀ (l l' : List Int32) (S : List Int64), crn w B (l ++ l') S = (crn w B l S).bind (crn w B l')
  | [], l', S => rfl
  | c :: l, l', S => by
    show (cst w B c S).bind (crn w B (l ++ l')) = ((cst w B c S).bind (crn w B l)).bind (crn w B l')
    cases cst w B c S with
    | none => rfl
    | some S' => exact crn_app w B l l' S'
theorem crn_1 (w : Nat → Int64) (B : Nat) (c : Int32) (S : List Int64) : crn w B [c] S = cst w B c S := by
  show (cst w B c S).bind (crn w B []) = _
  cases cst w B c S <;> rfl
def gK (D j : Nat) (A : Prop) (l : List Int32) : Prop := ∀ w, ∃ vs : List Int64, vs.length = j ∧ (A → ∀ v, v ∈ vs → v = 0 ∨ v = 1) ∧ ∀ S B, S.length + D ≤ B → crn w B l S = some (vs ++ S)
theorem gK_nil (D : Nat) (A : Prop) : gK D 0 A [] := fun w => ⟨[], rfl, fun _ v h => absurd h (by simp), fun S B _ => rfl⟩
theorem gK_mono {D D' j : Nat} {A : Prop} {l : List Int32} (h : gK D j A l) (hd : D ≤ D') : gK D' j A l := fun w => by
  obtain ⟨vs, h1, h2, h3⟩ := h w
  exact ⟨vs, h1, h2, fun S B q => h3 S B (by omega)⟩
theorem gK_app {D D' j j' : Nat} {A : Prop} {l l' : List Int32} (h : gK D j A l) (h' : gK D' j' A l') (hd : j + D' ≤ D) : gK D (j' + j) A (l ++ l') := fun w => by
  obtain ⟨vs, h1, h2, h3⟩ := h w
  obtain ⟨vs', h1', h2', h3'⟩ := h' w
  refine ⟨vs' ++ vs, by rw [List.length_append, h1, h1'], fun a v hv => ?_, fun S B q => ?_⟩
  · rcases List.mem_append.mp hv with c | c
    · exact h2' a v c
    · exact h2 a v c
  · rw [crn_app, h3 S B q]
    show crn w B l' (vs ++ S) = _
    rw [h3' (vs ++ S) B (by rw [List.length_append, h1]; omega), List.append_assoc]
theorem gK_val {D j : Nat} {l : List Int32} {c : Int32} (h : gK D j False l) (hc : isv c) (hj : j < D) : gK D (j + 1) False (l ++ [c]) := fun w => by
  obtain ⟨vs, h1, h2, h3⟩ := h w
  refine ⟨(if 40 ≤ c then (c - 40).toInt64 else w c.toNatClampNeg) :: vs, by rw [List.length_cons, h1], fun a => a.elim, fun S B q => ?_⟩
  rw [crn_app, h3 S B q]
  show crn w B [c] (vs ++ S) = _
  rw [crn_1]
  unfold cst
  have hl : (vs ++ S).length < B := by rw [List.length_append, h1]; omega
  rcases hc with ⟨v, hv, rfl⟩ | ⟨k, hk, rfl⟩
  · have c1 : (40 : Int32) ≤ Int32.ofNat (40 + v) := by rw [show (40 : Int32) = Int32.ofNat 40 from rfl, n_le (by omega) (by omega)]; omega
    have c0 : ¬ (Int32.ofNat (40 + v) < 0 ∨ 100040 ≤ Int32.ofNat (40 + v)) := by
      rw [show (100040 : Int32) = Int32.ofNat 100040 from rfl, n_le (by omega) (by omega)]; rintro (h | h)
      · exact n_neg (by omega) h
      · omega
    rw [if_neg c0, if_pos c1, if_pos hl, if_pos c1]; rfl
  · have c1 : ¬ (40 : Int32) ≤ Int32.ofNat k := by rw [show (40 : Int32) = Int32.ofNat 40 from rfl, n_le (by omega) (by omega)]; omega
    have c2 : Int32.ofNat k < 13 := by rw [show (13 : Int32) = Int32.ofNat 13 from rfl, n_lt (by omega) (by omega)]; omega
    have c0 : ¬ (Int32.ofNat k < 0 ∨ 100040 ≤ Int32.ofNat k) := by
      rw [show (100040 : Int32) = Int32.ofNat 100040 from rfl, n_le (by omega) (by omega)]; rintro (h | h)
      · exact n_neg (by omega) h
      · omega
    rw [if_neg c0, if_neg c1, if_pos c2, if_pos hl, if_neg c1]; rfl
def bop (c : Int32) : Prop := ¬ (c < 0 ∨ 100040 ≤ c) ∧ ¬ (40 ≤ c) ∧ ¬ (c < 13) ∧ c ≠ 30 ∧ 20 ≤ c ∧ c ≤ 32
theorem cst_op {w : Nat → Int64} {B : Nat} {c : Int32} {x y : Int64} {S : List Int64} (h : bop c) : cst w B c (y :: x :: S) = some (jn c x y :: S) := by
  unfold cst; rw [if_neg h.1, if_neg h.2.1, if_neg h.2.2.1, if_neg h.2.2.2.1, if_pos h.2.2.2.2]
theorem gK_op {D j : Nat} {A A' : Prop} {l : List Int32} {c : Int32} (h : gK D (j + 2) A l) (hc : bop c) (hA : A' → A ∧ ∀ x y : Int64, (x = 0 ∨ x = 1) → (y = 0 ∨ y = 1) → jn c x y = 0 ∨ jn c x y = 1) : gK D (j + 1) A' (l ++ [c]) := fun w => by
  obtain ⟨vs, h1, h2, h3⟩ := h w
  match vs, h1, h2, h3 with
  | y :: x :: vs', h1, h2, h3 =>
    refine ⟨jn c x y :: vs', by simp only [List.length_cons] at h1 ⊢; omega, fun a v hv => ?_, fun S B q => ?_⟩
    · have hb := h2 (hA a).1
      rcases List.mem_cons.mp hv with e | e
      · rw [e]; exact (hA a).2 x y (hb x (by simp)) (hb y (by simp))
      · exact hb v (by simp [e])
    · rw [crn_app, h3 S B q]
      show crn w B [c] (y :: x :: (vs' ++ S)) = _
      rw [crn_1, cst_op hc]; rfl
theorem gK_not {D j : Nat} {l : List Int32} (h : gK D (j + 1) True l) : gK D (j + 1) True (l ++ [30]) := fun w => by
  obtain ⟨vs, h1, h2, h3⟩ := h w
  match vs, h1, h2, h3 with
  | x :: vs', h1, h2, h3 =>
    refine ⟨(1 - x) :: vs', by simpa using h1, fun a v hv => ?_, fun S B q => ?_⟩
    · rcases List.mem_cons.mp hv with e | e
      · rw [e]
        rcases h2 a x (by simp) with c | c
        · rw [c]; right; decide
        · rw [c]; left; decide
      · exact h2 a v (by simp [e])
    · rw [crn_app, h3 S B q]
      show crn w B [30] (x :: (vs' ++ S)) = _
      rw [crn_1]; rfl
/-! sums in step -/
def tF (k9 : Unit → mm_S → Option (Int32 × mm_S)) (v : Unit) (σ : mm_S) : Option (Int32 × mm_S) :=
    bd (f_X10_see 214 σ) fun r15 σ14 =>
    if r15 = (42 : Int32) then
      f_X10_term_36 k9 214 σ14
    else
      bd (f_X10_see 214 σ14) fun r19 σ18 =>
      if r19 = (47 : Int32) then
        f_X10_term_36 k9 214 σ18
      else
        bd (f_X10_see 214 σ18) fun r23 σ22 =>
        if r23 = (37 : Int32) then
          f_X10_term_36 k9 214 σ22
        else
          some ((1 : Int32), σ22)
def sF (k9 : Unit → mm_S → Option (Int32 × mm_S)) (v : Unit) (σ : mm_S) : Option (Int32 × mm_S) :=
    bd (f_X10_see 214 σ) fun r13 σ12 =>
    if r13 = (43 : Int32) then
      f_X10_sum_27 k9 214 σ12
    else
      bd (f_X10_see 214 σ12) fun r17 σ16 =>
      if r17 = (45 : Int32) then
        f_X10_sum_27 k9 214 σ16
      else
        some ((1 : Int32), σ16)
def af (x : Int32) (ρ : mm_S) : Option mm_S := if x = -1 then some ρ else f_X10_puts 214 (en x) 0 ρ
def RC (aw mw : Int32) (n1 n2 : Nat) (ρ : mm_S) : Option (Int32 × mm_S) :=
  bd (f_X10_value 214 ρ) fun r s => if r = 0 then some (0, s) else
  bv (af mw s) fun s2 => bd (lp n1 tF () s2) fun r3 s3 => if r3 = 0 then some (0, s3) else bv (af aw s3) fun s4 => lp n2 sF () s4
theorem term9 (ρ : mm_S) : f_X10_term_9 214 ρ = lp lpN tF () ρ := by
  unfold f_X10_term_9; exact congrFun (congrFun (congrArg (lp lpN) (funext fun k => funext fun v => funext fun σ => rfl)) ()) ρ
theorem sum9 (ρ : mm_S) : f_X10_sum_9 214 ρ = lp lpN sF () ρ := by
  unfold f_X10_sum_9; exact congrFun (congrFun (congrArg (lp lpN) (funext fun k => funext fun v => funext fun σ => rfl)) ()) ρ
theorem af_m (ρ : mm_S) : af (-1) ρ = some ρ := if_pos rfl
theorem af_n {x : Int32} (h : ¬ (x = -1)) (ρ : mm_S) : af x ρ = f_X10_puts 214 (en x) 0 ρ := if_neg h
theorem sum_RC (ρ : mm_S) : f_X10_sum 214 ρ = RC (-1) (-1) lpN lpN ρ := by
  unfold f_X10_sum f_X10_term RC
  simp only [term9, sum9, af_m, bv_s]
  rcases f_X10_value 214 ρ with _ | ⟨r, s⟩
  · rfl
  · simp only [bd_s]
    by_cases c : r = 0
    · rw [if_pos c, if_pos c, bd_s, if_pos rfl]
    · rw [if_neg c, if_neg c]
section
variable {b : Nat → Int32} {L t m p e q : Nat} {R : List Int32} {B : Nat → Int32} {ρ : mm_S} {kd vl : Int32}
theorem term_mul {n1 n2 : Nat} {aw : Int32} (hb : BR b) (K : JR b L t B m R ρ q) (hs : sk b L q = p) (T : TK b L p kd vl e) (h3 : kd = 3) (hv : 22 ≤ vl ∧ vl ≤ 24) :
    (bd (lp (n1 + 1) tF () ρ) fun r3 s3 => if r3 = 0 then some (0, s3) else bv (af aw s3) fun s4 => lp n2 sF () s4) = RC aw vl n1 n2 (mv ρ e) ∧ e = p + 1 := by
  obtain ⟨hp, he, hvl⟩ := TK_3 T h3
  have hL := K.1.1
  have te := TK_e T
  have ps := TK_sk T
  have sn := se_n b L p
  have sp := sg_inv hb p (n := e - p) (by omega)
  rw [hvl] at hv
  have hx := sp.2.2.2.2.2.2.2.2.2.2.mp hv
  have he1 : e = p + 1 := by
    rw [he]; unfold se; rw [if_neg]
    rintro ⟨h | h, -⟩ <;> rw [h] at hx <;> exact absurd hx (by decide)
  refine ⟨?_, he1⟩
  have K1 := JR_mv (q' := p) K te.1
  have see1 : f_X10_see 214 (mv ρ p) = some (ch b L p, mv ρ p) := by rw [JR_see K1 ps, mv_mv]
  have i42 : ch b L p = 42 ↔ kd = 3 ∧ b p = 42 := ch_iff (c := 42) hb T (by omega) (by decide) (by decide)
  have i47 : ch b L p = 47 ↔ kd = 3 ∧ b p = 47 := ch_iff (c := 47) hb T (by omega) (by decide) (by decide)
  have i37 : ch b L p = 37 ↔ kd = 3 ∧ b p = 37 := ch_iff (c := 37) hb T (by omega) (by decide) (by decide)
  have h74 : ∀ s0 : Int32, s0 = en vl → (bd (f_X10_term_74 (lp n1 tF) 214 s0 (mv ρ p)) fun r3 s3 => if r3 = 0 then some (0, s3) else bv (af aw s3) fun s4 => lp n2 sF () s4) = RC aw vl n1 n2 (mv ρ e) := by
    rintro s0 rfl
    have vne : ¬ (vl = -1) := by
      rw [hvl]; rintro h
      rcases hx with h' | h' | h'
      · have := sp.2.1.mpr h'; rw [this] at h; exact absurd h (by decide)
      · have := sp.2.2.2.2.1.mpr h'; rw [this] at h; exact absurd h (by decide)
      · have := sp.1.mpr h'; rw [this] at h; exact absurd h (by decide)
    unfold f_X10_term_74 RC
    rw [lt_eq, mv_8, show Int32.ofNat p + 1 = Int32.ofNat (p + 1) from n_add p 1]
    simp only [af_n vne]
    show (bd (bd (f_X10_value 214 (mv (mv ρ p) (p + 1))) _) _) = _
    rw [mv_mv, he1]
    rcases f_X10_value 214 (mv ρ (p + 1)) with _ | ⟨r, s⟩
    · rfl
    · simp only [bd_s]
      by_cases c : r = 0
      · rw [if_pos c, if_pos c, bd_s, if_pos rfl]
      · rw [if_neg c, if_neg c]
        rcases f_X10_puts 214 (en vl) 0 s with _ | s2
        · rfl
        · rw [bv_s, bv_s]
  have h36 : (bd (f_X10_term_36 (lp n1 tF) 214 (mv ρ p)) fun r3 s3 => if r3 = 0 then some (0, s3) else bv (af aw s3) fun s4 => lp n2 sF () s4) = RC aw vl n1 n2 (mv ρ e) := by
    unfold f_X10_term_36
    rw [mv_8, gd_n (by omega) (by omega), gd_n (by omega) (by omega), n_idx (by omega), mv_o _ _ (by omega), K.1.2.2]
    rcases hx with h' | h' | h'
    · rw [if_pos h']; exact h74 _ (by rw [hvl, sp.2.1.mpr h']; decide)
    · rw [if_neg (by rw [h']; decide), if_pos h']; exact h74 _ (by rw [hvl, sp.2.2.2.2.1.mpr h']; decide)
    · rw [if_neg (by rw [h']; decide), if_neg (by rw [h']; decide)]; exact h74 _ (by rw [hvl, sp.1.mpr h']; decide)
  rw [lp_s]
  conv => lhs; arg 1; unfold tF
  rw [JR_see K hs, bd_s, see1, bd_s, see1, bd_s]
  by_cases c1 : ch b L p = 42
  · rw [if_pos c1]; exact h36
  · rw [if_neg c1]
    by_cases c2 : ch b L p = 47
    · rw [if_pos c2]; exact h36
    · rw [if_neg c2]
      by_cases c3 : ch b L p = 37
      · rw [if_pos c3]; exact h36
      · exfalso
        rcases hx with h' | h' | h'
        · exact c1 (i42.mpr ⟨h3, h'⟩)
        · exact c2 (i47.mpr ⟨h3, h'⟩)
        · exact c3 (i37.mpr ⟨h3, h'⟩)
theorem term_end {n1 : Nat} (hb : BR b) (K : JR b L t B m R ρ q) (hs : sk b L q = p) (T : TK b L p kd vl e) (h3 : ¬ (kd = 3 ∧ 22 ≤ vl ∧ vl ≤ 24)) : lp (n1 + 1) tF () ρ = some (1, mv ρ p) := by
  have te := TK_e T
  have ps := TK_sk T
  have K1 := JR_mv (q' := p) K te.1
  have see1 : f_X10_see 214 (mv ρ p) = some (ch b L p, mv ρ p) := by rw [JR_see K1 ps, mv_mv]
  have i42 : ch b L p = 42 ↔ kd = 3 ∧ b p = 42 := ch_iff (c := 42) hb T (by omega) (by decide) (by decide)
  have i47 : ch b L p = 47 ↔ kd = 3 ∧ b p = 47 := ch_iff (c := 47) hb T (by omega) (by decide) (by decide)
  have i37 : ch b L p = 37 ↔ kd = 3 ∧ b p = 37 := ch_iff (c := 37) hb T (by omega) (by decide) (by decide)
  have no : ∀ x : Int32, (x = 42 ∨ x = 47 ∨ x = 37) → ¬ (kd = 3 ∧ b p = x) := by
    rintro x hx ⟨q1, q2⟩
    obtain ⟨hp, he, hvl⟩ := TK_3 T q1
    have sn := se_n b L p
    have sp := sg_inv hb p (n := e - p) (by omega)
    exact h3 ⟨q1, by rw [hvl]; exact sp.2.2.2.2.2.2.2.2.2.2.mpr (by rw [q2]; exact hx)⟩
  rw [lp_s]
  unfold tF
  rw [JR_see K hs, bd_s, see1, bd_s, see1, bd_s, if_neg (fun q => no 42 (Or.inl rfl) (i42.mp q)), if_neg (fun q => no 47 (Or.inr (Or.inl rfl)) (i47.mp q)), if_neg (fun q => no 37 (Or.inr (Or.inr rfl)) (i37.mp q))]
theorem sum_add {n2 : Nat} (hb : BR b) (K : JR b L t B m R ρ q) (hs : sk b L q = p) (T : TK b L p kd vl e) (h3 : kd = 3) (hv : vl = 20 ∨ vl = 21) : lp (n2 + 1) sF () ρ = RC vl (-1) lpN n2 (mv ρ e) ∧ e = p + 1 := by
  obtain ⟨hp, he, hvl⟩ := TK_3 T h3
  have hL := K.1.1
  have te := TK_e T
  have ps := TK_sk T
  have sn := se_n b L p
  have sp := sg_inv hb p (n := e - p) (by omega)
  have hx : b p = 43 ∨ b p = 45 := by
    rcases hv with h | h
    · exact Or.inl (sp.2.2.1.mp (hvl.symm.trans h))
    · exact Or.inr (sp.2.2.2.1.mp (hvl.symm.trans h))
  have he1 : e = p + 1 := by
    rw [he]; unfold se; rw [if_neg]
    rintro ⟨h | h, -⟩ <;> rw [h] at hx <;> exact absurd hx (by decide)
  refine ⟨?_, he1⟩
  have K1 := JR_mv (q' := p) K te.1
  have see1 : f_X10_see 214 (mv ρ p) = some (ch b L p, mv ρ p) := by rw [JR_see K1 ps, mv_mv]
  have i43 : ch b L p = 43 ↔ kd = 3 ∧ b p = 43 := ch_iff (c := 43) hb T (by omega) (by decide) (by decide)
  have i45 : ch b L p = 45 ↔ kd = 3 ∧ b p = 45 := ch_iff (c := 45) hb T (by omega) (by decide) (by decide)
  have h46 : ∀ s0 : Int32, s0 = en vl → f_X10_sum_46 (lp n2 sF) 214 s0 (mv ρ p) = RC vl (-1) lpN n2 (mv ρ e) := by
    rintro s0 rfl
    have vne : ¬ (vl = -1) := by rintro h; rw [h] at hv; exact absurd hv (by decide)
    unfold f_X10_sum_46 f_X10_term RC
    simp only [term9, af_m, bv_s, af_n vne]
    rw [lt_eq, mv_8, show Int32.ofNat p + 1 = Int32.ofNat (p + 1) from n_add p 1]
    show (bd (bd (f_X10_value 214 (mv (mv ρ p) (p + 1))) _) _) = _
    rw [mv_mv, he1]
    rcases f_X10_value 214 (mv ρ (p + 1)) with _ | ⟨r, s⟩
    · rfl
    · simp only [bd_s]
      by_cases c : r = 0
      · rw [if_pos c, if_pos c, bd_s, if_pos rfl]
      · rw [if_neg c, if_neg c]
  have h27 : f_X10_sum_27 (lp n2 sF) 214 (mv ρ p) = RC vl (-1) lpN n2 (mv ρ e) := by
    unfold f_X10_sum_27
    rw [mv_8, gd_n (by omega) (by omega), n_idx (by omega), mv_o _ _ (by omega), K.1.2.2]
    rcases hx with h' | h'
    · rw [if_pos h']; exact h46 _ (by rw [hvl, sp.2.2.1.mpr h']; decide)
    · rw [if_neg (by rw [h']; decide)]; exact h46 _ (by rw [hvl, sp.2.2.2.1.mpr h']; decide)
  rw [lp_s]
  conv => lhs; unfold sF
  rw [JR_see K hs, bd_s, see1, bd_s]
  by_cases c1 : ch b L p = 43
  · rw [if_pos c1]; exact h27
  · rw [if_neg c1]
    by_cases c2 : ch b L p = 45
    · rw [if_pos c2]; exact h27
    · exfalso
      rcases hx with h' | h'
      · exact c1 (i43.mpr ⟨h3, h'⟩)
      · exact c2 (i45.mpr ⟨h3, h'⟩)
theorem sum_end {n2 : Nat} (hb : BR b) (K : JR b L t B m R ρ q) (hs : sk b L q = p) (T : TK b L p kd vl e) (h3 : ¬ (kd = 3 ∧ vl = 20)) (h4 : ¬ (kd = 3 ∧ vl = 21)) : lp (n2 + 1) sF () ρ = some (1, mv ρ p) := by
  have te := TK_e T
  have ps := TK_sk T
  have K1 := JR_mv (q' := p) K te.1
  have see1 : f_X10_see 214 (mv ρ p) = some (ch b L p, mv ρ p) := by rw [JR_see K1 ps, mv_mv]
  have i43 : ch b L p = 43 ↔ kd = 3 ∧ b p = 43 := ch_iff (c := 43) hb T (by omega) (by decide) (by decide)
  have i45 : ch b L p = 45 ↔ kd = 3 ∧ b p = 45 := ch_iff (c := 45) hb T (by omega) (by decide) (by decide)
  have n1 : ¬ (kd = 3 ∧ b p = 43) := by
    rintro ⟨q1, q2⟩
    obtain ⟨hp, he, hvl⟩ := TK_3 T q1
    have sn := se_n b L p
    have sp := sg_inv hb p (n := e - p) (by omega)
    exact h3 ⟨q1, hvl.trans (sp.2.2.1.mpr q2)⟩
  have n3 : ¬ (kd = 3 ∧ b p = 45) := by
    rintro ⟨q1, q2⟩
    obtain ⟨hp, he, hvl⟩ := TK_3 T q1
    have sn := se_n b L p
    have sp := sg_inv hb p (n := e - p) (by omega)
    exact h4 ⟨q1, hvl.trans (sp.2.2.2.1.mpr q2)⟩
  rw [lp_s]
  unfold sF
  rw [JR_see K hs, bd_s, see1, bd_s, if_neg (fun q => n1 (i43.mp q)), if_neg (fun q => n3 (i45.mp q))]
end
