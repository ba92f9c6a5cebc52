/-! clauses of a RULE in step -/
def ccode (x : List Int32 × Option (List Int32)) : List Int32 := match x.2 with | none => x.1 ++ [33] | some u => x.1 ++ u ++ [34]
def rcode (x : List Int32 × Option (List Int32)) : List Int32 := match x.2 with | none => x.1.map en | some u => x.1.map en ++ u.map en
def gcl (x : List Int32 × Option (List Int32)) : Prop := gK 3 1 False x.1 ∧ match x.2 with | none => True | some u => gK 26 1 True u
def TBL (t : Nat) (ρ : mm_S) : List (List Int32 × Option (List Int32)) → Nat → Nat → Prop
  | [], _, _ => True
  | x :: r, i, rp => (ρ.1 218 (48 * t + 4 * i) = Int32.ofNat rp ∧ ρ.1 218 (48 * t + 4 * i + 1) = Int32.ofNat (rp + x.1.length) ∧
      (match x.2 with | none => ρ.1 218 (48 * t + 4 * i + 2) = -1 | some u => ρ.1 218 (48 * t + 4 * i + 2) = Int32.ofNat (rp + x.1.length) ∧ ρ.1 218 (48 * t + 4 * i + 3) = Int32.ofNat (rp + x.1.length + u.length))) ∧ TBL t ρ r (i + 1) (rp + (rcode x).length)
theorem TBL_keep {t : Nat} {ρ ρ' : mm_S} : ∀ {cls : List (List Int32 × Option (List Int32))} {i rp : Nat}, (∀ j, j < 48 * t + 4 * (i + cls.length) → ρ'.1 218 j = ρ.1 218 j) → TBL t ρ cls i rp → TBL t ρ' cls i rp
  | [], _, _, _, _ => trivial
  | x :: r, i, rp, h, T => by
    have hl : (x :: r).length = r.length + 1 := rfl
    obtain ⟨⟨t1, t2, t3⟩, t4⟩ := T
    refine ⟨⟨?_, ?_, ?_⟩, TBL_keep (cls := r) (i := i + 1) (fun j hj => h j (by omega)) t4⟩
    · rw [h _ (by omega)]; exact t1
    · rw [h _ (by omega)]; exact t2
    · rw [h _ (by omega), h _ (by omega)]; exact t3
theorem TBL_snoc {t : Nat} {ρ : mm_S} {x : List Int32 × Option (List Int32)} : ∀ {cls : List (List Int32 × Option (List Int32))} {i rp : Nat}, TBL t ρ cls i rp → TBL t ρ [x] (i + cls.length) (rp + (cls.flatMap rcode).length) → TBL t ρ (cls ++ [x]) i rp
  | [], i, rp, _, h => h
  | y :: r, i, rp, T, h => by
    refine ⟨T.1, TBL_snoc (cls := r) T.2 ?_⟩
    rw [show i + 1 + r.length = i + (y :: r).length from by rw [List.length_cons]; omega, Nat.add_assoc, show (rcode y).length + (r.flatMap rcode).length = ((y :: r).flatMap rcode).length from by rw [List.flatMap_cons, List.length_append]]
    exact h
theorem rc_len (x : List Int32 × Option (List Int32)) : (rcode x).length + 1 = (ccode x).length := by
  unfold rcode ccode
  rcases x with ⟨s, _ | u⟩
  · simp
  · simp; omega
theorem fm_snoc {f : List Int32 × Option (List Int32) → List Int32} (cls : List (List Int32 × Option (List Int32))) (x : List Int32 × Option (List Int32)) : (cls ++ [x]).flatMap f = cls.flatMap f ++ f x := by
  rw [List.flatMap_append]; simp
section
variable {b : Nat → Int32} {L a t m p e q : Nat} {C R : List Int32} {B : Nat → Int32} {σ ρ : mm_S} {kd vl f : Int32}
theorem FV_test (h : FV b L a f σ) : f_X4_readTest 3 a 0 σ = some σ := by
  show f_X4_readTest_b_8 (f_X4_rec 39 false) (f_X4_rec 39 true) 3 a 0 0 0 0 σ = _
  unfold f_X4_readTest_b_8
  rw [show lpN = 999999 + 1 from rfl, lp_s, if_neg (by decide), if_neg (by rw [h.2.1]; exact h.2.2.1)]
theorem FV_52 {rec : Int32 → mm_S → Option mm_S} (ha : 14 ≤ a) (h : FV b L a f σ) (v : Int32) : ∃ σ', f_X4_readRule_52 rec 3 a v σ = f_X4_readRule_95 rec 3 a v σ' ∧ FV b L a f σ' := by
  unfold f_X4_readRule_52
  obtain ⟨τ, e1, h1⟩ := FV_step ha h
  obtain ⟨p, kd, vl, e, c⟩ := h1.1
  rw [e1, bv_s, FV_sum h1, bv_s, x_isWord4 c, bd_s]
  by_cases c1 : kd = 1 ∧ vl = 16
  · rw [if_pos c1, if_neg (show ¬ ((1 : Int32) = 0) by decide)]
    obtain ⟨υ, e2, h2⟩ := FV_step ha h1
    obtain ⟨ω, e3, h3⟩ := FV_add ha h2 34
    rw [e2, bv_s, FV_test h2, bv_s, e3, bv_s]; exact ⟨_, rfl, h3⟩
  · rw [if_neg c1, if_pos rfl]
    obtain ⟨ω, e3, h3⟩ := FV_add ha h1 33
    rw [e3, bv_s]; exact ⟨_, rfl, h3⟩
theorem FV_95 {rec : Int32 → mm_S → Option mm_S} {Q : mm_S → Prop} (ha : 14 ≤ a) (h : FV b L a f σ) (v : Int32) (hrec : ∀ v σ', FV b L a f σ' → wp (rec v σ') Q) (hQ : ∀ σ', FV b L a f σ' → Q σ') : wp (f_X4_readRule_95 rec 3 a v σ) Q := by
  unfold f_X4_readRule_95
  obtain ⟨p, kd, vl, e, c⟩ := h.1
  obtain ⟨τ, e1, h1⟩ := FV_step ha h
  rw [x_isSign c, bd_s, FV_fail h, bv_s, e1, bv_s, lt_eq]
  generalize (if kd = 3 ∧ vl = 37 then (1 : Int32) else 0) = x
  split
  · rw [wp_some]; exact hQ _ h
  · split
    · exact hrec _ _ h1
    · exact hrec _ _ h1
theorem r_takes {k : Nat} (hk : k < 20) (T : TK b L p kd vl e) (K : JR b L t B m R ρ q) (hs : sk b L q = p) : f_X10_takesWord 214 (WK k) ρ = if kd = 1 ∧ vl = Int32.ofNat k then some (1, mv ρ e) else some (0, mv ρ p) := by
  have te := TK_e T
  unfold f_X10_takesWord
  rw [t_word hk K.1 K.2.1 K.2.2.1 hs T, bd_s]
  by_cases c : kd = 1 ∧ vl = Int32.ofNat k
  · have K1 := JR_mv (q' := p) K te.1
    rw [if_pos c, if_neg (show ¬ ((1 : Int32) = 0) by decide), if_pos c, r_passWord K1.1 te.1 (mv_8 _ _), mv_mv, bv_s, ← (TK_w T c.1).1]
  · rw [if_neg c, if_pos rfl, if_neg c]
/-- the row of clauses of the text t, and those of earlier texts -/
def JK (t : Nat) (B2 B3 : Nat → Int32) (cls : List (List Int32 × Option (List Int32))) (ρ : mm_S) : Prop :=
  ρ.1 214 14 = Int32.ofNat cls.length ∧ ρ.1 219 t = Int32.ofNat cls.length ∧ TBL t ρ cls 0 0 ∧ (∀ j, j < 48 * t → ρ.1 218 j = B2 j) ∧ (∀ j, j < t → ρ.1 219 j = B3 j) ∧ ∀ x, x ∈ cls → gcl x
def RFk (t : Nat) (B B2 B3 : Nat → Int32) (X : Option (Int32 × mm_S)) (f : Int32) : Prop := wp X (fun r => r.1 = 0 ∧ RG t B f r.2 ∧ (∀ j, j < 48 * t → r.2.1 218 j = B2 j) ∧ ∀ j, j < t → r.2.1 219 j = B3 j)
/-- what a clause gives -/
def KO (b : Nat → Int32) (L a t : Nat) (B B2 B3 : Nat → Int32) (cls : List (List Int32 × Option (List Int32))) (p : Nat) (X : Option (Int32 × mm_S)) (σ' : mm_S) : Prop :=
  (∃ f, FV b L a f σ' ∧ RFk t B B2 B3 X f) ∨ (∃ x ρ' m' q' p' kd' vl' e', X = some (1, ρ') ∧ JC b L a m' ((cls ++ [x]).flatMap ccode) σ' p' kd' vl' e' ∧ JR b L t B m' ((cls ++ [x]).flatMap rcode) ρ' q' ∧ sk b L q' = p' ∧ JK t B2 B3 (cls ++ [x]) ρ' ∧ ((cls ++ [x]).flatMap ccode).length ≤ p' ∧ p < p' ∧ m' ≤ 60)
theorem J_seek {B2 B3 : Nat → Int32} {cls : List (List Int32 × Option (List Int32))} {rec : Int32 → mm_S → Option mm_S} (v : Int32) (ha : 14 ≤ a) (ht : t < 6) (hb : BR b) (hm : m ≤ 60)
    (J : JC b L a m (cls.flatMap ccode) σ p kd vl e) (K : JR b L t B m (cls.flatMap rcode) ρ q) (hs : sk b L q = p) (hC : (cls.flatMap ccode).length ≤ p) (hR : (cls.flatMap rcode).length ≤ (cls.flatMap ccode).length) (hk : JK t B2 B3 cls ρ) (hN : cls.length < 12) (hw : kd = 1 ∧ vl = 15) :
    ∃ σ', f_X4_readRule_52 rec 3 a v σ = f_X4_readRule_95 rec 3 a v σ' ∧ KO b L a t B B2 B3 cls p (f_X10_isSeekHere 214 (su_i (mv ρ p) 214 14 (Int32.ofNat (cls.length + 1)))) σ' := by
  have hL := K.1.1
  have T := CP_TK J.1
  have te := TK_e T
  obtain ⟨hee, hp⟩ := TK_w T hw.1
  obtain ⟨k1, k2, k3, k4, k5, k6⟩ := hk
  -- the reference up to its sum
  have K1 : JR b L t B m (cls.flatMap rcode) (su_i (mv ρ p) 214 14 (Int32.ofNat (cls.length + 1))) p := JR_keep (JR_mv K te.1) (ag_i (by omega))
  have o1 : ∀ a k, (a = 218 ∨ a = 219) → (su_i (mv ρ p) 214 14 (Int32.ofNat (cls.length + 1))).1 a k = ρ.1 a k := fun a k h => by rw [rd_ia _ _ _ _ _ _ (by omega), mv_o _ _ (by omega)]
  have l1 : (su_i (mv ρ p) 214 14 (Int32.ofNat (cls.length + 1))).1 214 14 = Int32.ofNat (cls.length + 1) := rd_is _ _ _ _
  generalize su_i (mv ρ p) 214 14 (Int32.ofNat (cls.length + 1)) = ρ1 at K1 o1 l1 ⊢
  have K2 := JR_mv (q' := e) K1 te.2.1
  have K3 : JR b L t B m (cls.flatMap rcode) (su_i (mv ρ1 e) 218 (48 * t + 4 * cls.length) (Int32.ofNat (cls.flatMap rcode).length)) e := JR_keep K2 (ag_i (by omega))
  have eX : f_X10_isSeekHere 214 ρ1 = bd (f_X10_sum 214 (su_i (mv ρ1 e) 218 (48 * t + 4 * cls.length) (Int32.ofNat (cls.flatMap rcode).length))) (fun r52 σ51 => if r52 = 0 then some ((0 : Int32), σ51) else
      gd (σ51.1 214 11) 7 <|
      gd (Int32.ofNat (48 * t + 4 * cls.length) + (1 : Int32)) 288 <|
      lt (su_i σ51 218 (Int32.ofNat (48 * t + 4 * cls.length) + (1 : Int32)).toNatClampNeg (σ51.1 217 (σ51.1 214 11).toNatClampNeg)) fun σ56 =>
      gd (Int32.ofNat (48 * t + 4 * cls.length) + (2 : Int32)) 288 <|
      lt (su_i σ56 218 (Int32.ofNat (48 * t + 4 * cls.length) + (2 : Int32)).toNatClampNeg (-1 : Int32)) fun σ59 =>
      bd (f_X10_takesWord 214 (294 : Int64) σ59) fun r63 σ62 =>
      if r63 = 0 then
        f_X10_isSeekHere_110 214 (Int32.ofNat (48 * t + 4 * cls.length)) σ62
      else
        gd (σ62.1 214 11) 7 <|
        gd (Int32.ofNat (48 * t + 4 * cls.length) + (2 : Int32)) 288 <|
        lt (su_i σ62 218 (Int32.ofNat (48 * t + 4 * cls.length) + (2 : Int32)).toNatClampNeg (σ62.1 217 (σ62.1 214 11).toNatClampNeg)) fun σ67 =>
        bd (f_X10_tested 214 σ67) fun r71 σ70 =>
        if r71 = 0 then
          some ((0 : Int32), σ70)
        else
          f_X10_isSeekHere_110 214 (Int32.ofNat (48 * t + 4 * cls.length)) σ70) := by
    unfold f_X10_isSeekHere
    rw [r_passWord K1.1 K1.2.1 K1.2.2.1, ← hee, bv_s, K2.2.2.2.2.2.1, gd_n (by omega) (by omega), n_idx (by omega), mv_o _ _ (show ¬ (219 = 214 ∧ t = 8) by omega), o1 219 t (Or.inr rfl), k2, show (48 : Int32) = Int32.ofNat 48 from rfl, show (4 : Int32) = Int32.ofNat 4 from rfl, n_mul, n_mul, n_add, lt_eq, gd_n (by omega) (by omega), gd_n (by omega) (by omega), n_idx (by omega), K2.2.2.2.2.2.2.1, lt_eq]
  generalize f_X10_isSeekHere 214 ρ1 = X at eX ⊢
  -- the class up to its sum
  obtain ⟨σ1, kd1, vl1, e1, es1, J1⟩ := JC_step ha J hp
  have pp : p < sk b L e := Nat.lt_of_lt_of_le (te.2.2.2 hp) (ed_le isb b L e)
  have te1 := TK_e (CP_TK J1.1)
  unfold f_X4_readRule_52
  rw [es1, bv_s]
  obtain ⟨σ2, es2, S⟩ := J_sum ha ht hb hm J1 K3 rfl (by omega) hR
  rw [es2, bv_s]
  rcases S with ⟨f, F, rf⟩ | ⟨ρ2, s, m2, q2, p2, kd2, vl2, e2, er2, J2, K4, s2, g2, len2, pp2, hm2, ag2⟩
  · have rfX : RFk t B B2 B3 X f := by
      obtain ⟨⟨r, s⟩, er, r0, r9⟩ := rf
      dsimp only at r0 r9
      have fr := fr_X10_sum (P := fun a k => a = 219 ∨ a = 218) (a0 := 214) (by intro a k; omega) ko_refl _ er
      rw [eX, er, bd_s, if_pos r0]
      refine wp_some.mpr ⟨rfl, r9, fun j hj => ?_, fun j hj => ?_⟩
      · rw [fr.1 _ _ (by omega), rd_ik _ _ _ _ _ _ (by omega), mv_o _ _ (by omega), o1 _ _ (Or.inl rfl)]; exact k4 j hj
      · rw [fr.1 _ _ (by omega), rd_ia _ _ _ _ _ _ (by omega), mv_o _ _ (by omega), o1 _ _ (Or.inr rfl)]; exact k5 j hj
    obtain ⟨p3, kd3, vl3, e3, c3⟩ := F.1
    rw [x_isWord4 c3, bd_s]
    by_cases c1 : kd3 = 1 ∧ vl3 = 16
    · rw [if_pos c1, if_neg (show ¬ ((1 : Int32) = 0) by decide)]
      obtain ⟨υ, ea, h2⟩ := FV_step ha F
      obtain ⟨ω, eb, h3⟩ := FV_add ha h2 34
      rw [ea, bv_s, FV_test h2, bv_s, eb, bv_s]; exact ⟨_, rfl, Or.inl ⟨f, h3, rfX⟩⟩
    · rw [if_neg c1, if_pos rfl]
      obtain ⟨ω, eb, h3⟩ := FV_add ha F 33
      rw [eb, bv_s]; exact ⟨_, rfl, Or.inl ⟨f, h3, rfX⟩⟩
  · have T2 := CP_TK J2.1
    have te2 := TK_e T2
    have lC2 : (cls.flatMap ccode ++ s).length = (cls.flatMap ccode).length + s.length := List.length_append
    have lR2 : (cls.flatMap rcode ++ s.map en).length = (cls.flatMap rcode).length + s.length := by rw [List.length_append, List.length_map]
    -- cells of the table so far
    have t218 : ∀ j, j ≠ 48 * t + 4 * cls.length → ρ2.1 218 j = ρ.1 218 j := fun j hj => by rw [ag2 _ _ (by omega), rd_ik _ _ _ _ _ _ hj, mv_o _ _ (by omega), o1 _ _ (Or.inl rfl)]
    have t218' : ρ2.1 218 (48 * t + 4 * cls.length) = Int32.ofNat (cls.flatMap rcode).length := by rw [ag2 _ _ (by omega), rd_is]
    have t219 : ∀ j, ρ2.1 219 j = ρ.1 219 j := fun j => by rw [ag2 _ _ (by omega), rd_ia _ _ _ _ _ _ (by omega), mv_o _ _ (by omega), o1 _ _ (Or.inr rfl)]
    have t14 : ρ2.1 214 14 = Int32.ofNat (cls.length + 1) := by rw [ag2 _ _ (by omega), rd_ia _ _ _ _ _ _ (by omega), mv_o _ _ (by omega)]; exact l1
    rw [er2, bd_s, if_neg (show ¬ ((1 : Int32) = 0) by decide), K4.2.2.2.2.2.1, gd_n (by omega) (by omega), n_idx (by omega), K4.2.2.2.2.2.2.1, lR2, show (1 : Int32) = Int32.ofNat 1 from rfl, show (2 : Int32) = Int32.ofNat 2 from rfl, n_add, n_add, gd_n (by omega) (by omega), n_idx (by omega), lt_eq, gd_n (by omega) (by omega), n_idx (by omega), lt_eq] at eX
    have K5 : JR b L t B m2 (cls.flatMap rcode ++ s.map en) (su_i (su_i ρ2 218 (48 * t + 4 * cls.length + 1) (Int32.ofNat ((cls.flatMap rcode).length + s.length))) 218 (48 * t + 4 * cls.length + 2) (-1)) q2 := JR_keep K4 (fun a k g => by rw [rd_ii, if_neg (by omega), rd_ii, if_neg (by omega)])
    have u218 : ∀ j, j ≠ 48 * t + 4 * cls.length + 1 → j ≠ 48 * t + 4 * cls.length + 2 → (su_i (su_i ρ2 218 (48 * t + 4 * cls.length + 1) (Int32.ofNat ((cls.flatMap rcode).length + s.length))) 218 (48 * t + 4 * cls.length + 2) (-1)).1 218 j = ρ2.1 218 j := fun j h1 h2 => by rw [rd_ik _ _ _ _ _ _ h2, rd_ik _ _ _ _ _ _ h1]
    have u1 : (su_i (su_i ρ2 218 (48 * t + 4 * cls.length + 1) (Int32.ofNat ((cls.flatMap rcode).length + s.length))) 218 (48 * t + 4 * cls.length + 2) (-1)).1 218 (48 * t + 4 * cls.length + 1) = Int32.ofNat ((cls.flatMap rcode).length + s.length) := by rw [rd_ik _ _ _ _ _ _ (by omega), rd_is]
    have u2 : (su_i (su_i ρ2 218 (48 * t + 4 * cls.length + 1) (Int32.ofNat ((cls.flatMap rcode).length + s.length))) 218 (48 * t + 4 * cls.length + 2) (-1)).1 218 (48 * t + 4 * cls.length + 2) = -1 := rd_is _ _ _ _
    have uo : ∀ a k, a ≠ 218 → (su_i (su_i ρ2 218 (48 * t + 4 * cls.length + 1) (Int32.ofNat ((cls.flatMap rcode).length + s.length))) 218 (48 * t + 4 * cls.length + 2) (-1)).1 a k = ρ2.1 a k := fun a k h => by rw [rd_ia _ _ _ _ _ _ h, rd_ia _ _ _ _ _ _ h]
    generalize su_i (su_i ρ2 218 (48 * t + 4 * cls.length + 1) (Int32.ofNat ((cls.flatMap rcode).length + s.length))) 218 (48 * t + 4 * cls.length + 2) (-1) = ρ3 at K5 u218 u1 u2 uo eX
    have tw : f_X10_takesWord 214 (294 : Int64) ρ3 = if kd2 = 1 ∧ vl2 = 16 then some (1, mv ρ3 e2) else some (0, mv ρ3 p2) := r_takes (k := 16) (by omega) T2 K5 s2
    -- the end of a clause
    have fin : ∀ (x : List Int32 × Option (List Int32)) (ρ6 : mm_S) (m6 q6 p6 e6 : Nat) (kd6 vl6 : Int32) (σ6 : mm_S), x.1 = s → gcl x → JC b L a m6 (cls.flatMap ccode ++ ccode x) σ6 p6 kd6 vl6 e6 → JR b L t B m6 (cls.flatMap rcode ++ rcode x) ρ6 q6 → sk b L q6 = p6 → (cls.flatMap ccode).length + (ccode x).length ≤ p6 → p < p6 → m6 ≤ 60 →
        (∀ a k, (a = 214 ∧ k = 14) ∨ a = 219 ∨ (a = 218 ∧ k ≠ 48 * t + 4 * cls.length + 2) → ρ6.1 a k = ρ3.1 a k) → (match x.2 with | none => ρ6.1 218 (48 * t + 4 * cls.length + 2) = -1 | some u => ρ6.1 218 (48 * t + 4 * cls.length + 2) = Int32.ofNat ((cls.flatMap rcode).length + s.length)) →
        X = f_X10_isSeekHere_110 214 (Int32.ofNat (48 * t + 4 * cls.length)) ρ6 → KO b L a t B B2 B3 cls p X σ6 := by
      intro x ρ6 m6 q6 p6 e6 kd6 vl6 σ6 xs gx J6 K6 s6 len6 pp6 hm6 fr6 c2 X6
      have te6 := TK_e (CP_TK J6.1)
      have rl := rc_len x
      have lR6 : (cls.flatMap rcode ++ rcode x).length = (cls.flatMap rcode).length + (rcode x).length := List.length_append
      unfold f_X10_isSeekHere_110 at X6
      rw [K6.2.2.2.2.2.1, gd_n (by omega) (by omega), n_idx (by omega), K6.2.2.2.2.2.2.1, show (3 : Int32) = Int32.ofNat 3 from rfl, n_add, gd_n (by omega) (by omega), n_idx (by omega), lt_eq, rd_ia _ _ _ _ _ _ (show 214 ≠ 218 by omega), K6.2.2.2.2.2.1, gd_n (by omega) (by omega), gd_n (by omega) (by omega), n_idx (by omega), lt_eq, rd_ia _ _ _ _ _ _ (show 219 ≠ 218 by omega), fr6 219 t (by omega), uo _ _ (by omega), t219, k2, show Int32.ofNat cls.length + 1 = Int32.ofNat (cls.length + 1) from n_add _ 1] at X6
      have w218 : ∀ j, j ≠ 48 * t + 4 * cls.length + 3 → (su_i (su_i ρ6 218 (48 * t + 4 * cls.length + 3) (Int32.ofNat (cls.flatMap rcode ++ rcode x).length)) 219 t (Int32.ofNat (cls.length + 1))).1 218 j = ρ6.1 218 j := fun j h1 => by rw [rd_ia _ _ _ _ _ _ (by omega), rd_ik _ _ _ _ _ _ h1]
      have w3 : (su_i (su_i ρ6 218 (48 * t + 4 * cls.length + 3) (Int32.ofNat (cls.flatMap rcode ++ rcode x).length)) 219 t (Int32.ofNat (cls.length + 1))).1 218 (48 * t + 4 * cls.length + 3) = Int32.ofNat ((cls.flatMap rcode).length + (rcode x).length) := by rw [rd_ia _ _ _ _ _ _ (by omega), rd_is, lR6]
      refine Or.inr ⟨x, _, m6, q6, p6, kd6, vl6, e6, X6, ?_, ?_, s6, ⟨?_, ?_, ?_, fun j hj => ?_, fun j hj => ?_, fun y hy => ?_⟩, ?_, pp6, hm6⟩
      · rw [fm_snoc]; exact J6
      · rw [fm_snoc]; exact JR_keep K6 (fun a k g => by rw [rd_ii, if_neg (by omega), rd_ii, if_neg (by omega)])
      · rw [rd_ia _ _ _ _ _ _ (by omega), rd_ia _ _ _ _ _ _ (by omega), fr6 _ _ (by omega), uo _ _ (by omega), t14, List.length_append]; rfl
      · rw [rd_is, List.length_append]; rfl
      · refine TBL_snoc (TBL_keep (fun j hj => ?_) k3) ⟨⟨?_, ?_, ?_⟩, trivial⟩
        · rw [Nat.zero_add] at hj
          rw [w218 _ (by omega), fr6 _ _ (by omega), u218 _ (by omega) (by omega), t218 _ (by omega)]
        · rw [Nat.zero_add, Nat.zero_add, w218 _ (by omega), fr6 _ _ (by omega), u218 _ (by omega) (by omega), t218']
        · rw [Nat.zero_add, Nat.zero_add, w218 _ (by omega), fr6 _ _ (by omega), u1, xs]
        · rw [Nat.zero_add, Nat.zero_add, w218 _ (by omega), w3]
          rcases x with ⟨s', _ | u⟩
          · exact c2
          · dsimp only at xs; subst xs
            refine ⟨c2, ?_⟩
            show Int32.ofNat (_ + (s'.map en ++ u.map en).length) = _
            rw [List.length_append, List.length_map, List.length_map, Nat.add_assoc]
      · rw [w218 _ (by omega), fr6 _ _ (by omega), u218 _ (by omega) (by omega), t218 _ (by omega)]; exact k4 j hj
      · rw [rd_ik _ _ _ _ _ _ (by omega), rd_ia _ _ _ _ _ _ (by omega), fr6 _ _ (by omega), uo _ _ (by omega), t219]; exact k5 j hj
      · rcases List.mem_append.mp hy with h | h
        · exact k6 y h
        · rw [List.mem_singleton.mp h]; exact gx
      · rw [fm_snoc, List.length_append]; exact len6
    rw [x_isWord4 J2.1, bd_s]
    by_cases c1 : kd2 = 1 ∧ vl2 = 16
    · rw [if_pos c1, if_neg (show ¬ ((1 : Int32) = 0) by decide)]
      have hp2 := (TK_w T2 c1.1).2
      obtain ⟨σ3, kd3, vl3, e3, es3, J3⟩ := JC_step ha J2 hp2
      have pp3 : p2 < sk b L e2 := Nat.lt_of_lt_of_le (te2.2.2.2 hp2) (ed_le isb b L e2)
      have te3 := TK_e (CP_TK J3.1)
      have K6 := JR_mv (q' := e2) K5 te2.2.1
      rw [tw, if_pos c1, bd_s, if_neg (show ¬ ((1 : Int32) = 0) by decide), K6.2.2.2.2.2.1, gd_n (by omega) (by omega), n_idx (by omega), K6.2.2.2.2.2.2.1, lR2, gd_n (by omega) (by omega), lt_eq] at eX
      have K7 : JR b L t B m2 (cls.flatMap rcode ++ s.map en) (su_i (mv ρ3 e2) 218 (48 * t + 4 * cls.length + 2) (Int32.ofNat ((cls.flatMap rcode).length + s.length))) e2 := JR_keep K6 (ag_i (by omega))
      rw [es3, bv_s]
      obtain ⟨σ4, es4, S4⟩ := J_test ha ht hb hm2 J3 K7 rfl (by omega) (by omega) (by omega)
      rw [es4, bv_s]
      rcases S4 with ⟨f, F, rf⟩ | ⟨ρ8, u, m8, q8, p8, kd8, vl8, e8, er8, J8, K8, s8, g8, len8, pp8, hm8⟩
      · have rfX : RFk t B B2 B3 X f := by
          obtain ⟨⟨r, s⟩, er, r0, r9⟩ := rf
          dsimp only at r0 r9
          have fr := fr_X10_tested (P := fun a k => a = 219 ∨ a = 218) (a0 := 214) (by intro a k; omega) ko_refl _ er
          rw [eX, er, bd_s, if_pos r0]
          refine wp_some.mpr ⟨rfl, r9, fun j hj => ?_, fun j hj => ?_⟩
          · rw [fr.1 _ _ (by omega), rd_ik _ _ _ _ _ _ (by omega), mv_o _ _ (by omega), u218 _ (by omega) (by omega), t218 _ (by omega)]; exact k4 j hj
          · rw [fr.1 _ _ (by omega), rd_ia _ _ _ _ _ _ (by omega), mv_o _ _ (by omega), uo _ _ (by omega), t219]; exact k5 j hj
        obtain ⟨ω, eb, h3⟩ := FV_add ha F 34
        rw [eb, bv_s]; exact ⟨_, rfl, Or.inl ⟨f, h3, rfX⟩⟩
      · have te8 := TK_e (CP_TK J8.1)
        have lC8 : (cls.flatMap ccode ++ s ++ u).length = (cls.flatMap ccode).length + s.length + u.length := by rw [List.length_append, lC2]
        obtain ⟨σ9, es9, J9⟩ := JC_add ha J8 (by omega) 34
        rw [es9, bv_s]
        have fr := fr_X10_tested (P := fun a k => (a = 214 ∧ k = 14) ∨ a = 219 ∨ a = 218) (a0 := 214) (σ0 := su_i (mv ρ3 e2) 218 (48 * t + 4 * cls.length + 2) (Int32.ofNat ((cls.flatMap rcode).length + s.length))) (by intro a k; omega) ko_refl _ er8
        refine ⟨_, rfl, fin (s, some u) ρ8 m8 q8 p8 e8 kd8 vl8 σ9 rfl ⟨g2, g8⟩ ?_ ?_ s8 ?_ (by omega) hm8 (fun a k h => ?_) ?_ ?_⟩
        · show JC b L a m8 (cls.flatMap ccode ++ (s ++ u ++ [34])) σ9 p8 kd8 vl8 e8
          rw [← List.append_assoc, ← List.append_assoc]; exact J9
        · show JR b L t B m8 (cls.flatMap rcode ++ (s.map en ++ u.map en)) ρ8 q8
          rw [← List.append_assoc]; exact K8
        · show _ + (s ++ u ++ [34]).length ≤ p8
          rw [List.length_append, List.length_append, List.length_singleton]; omega
        · rw [fr.1 a k (by omega), rd_ii, if_neg (by omega), mv_o _ _ (by omega)]
        · show ρ8.1 218 _ = _
          rw [fr.1 _ _ (by omega), rd_is]
        · rw [eX, er8, bd_s, if_neg (show ¬ ((1 : Int32) = 0) by decide)]
    · rw [if_neg c1, if_pos rfl]
      obtain ⟨σ9, es9, J9⟩ := JC_add ha J2 (by omega) 33
      rw [es9, bv_s]
      rw [tw, if_neg c1, bd_s, if_pos rfl] at eX
      refine ⟨_, rfl, fin (s, none) (mv ρ3 p2) m2 p2 p2 e2 kd2 vl2 σ9 rfl ⟨g2, trivial⟩ ?_ ?_ (TK_sk T2) ?_ (by omega) hm2 (fun a k h => mv_o _ _ (by omega)) ?_ eX⟩
      · show JC b L a m2 (cls.flatMap ccode ++ (s ++ [33])) σ9 p2 kd2 vl2 e2
        rw [← List.append_assoc]; exact J9
      · exact JR_mv K5 te2.1
      · show _ + (s ++ [33]).length ≤ p2
        rw [List.length_append, List.length_singleton]; omega
      · show (mv ρ3 p2).1 218 _ = _
        rw [mv_o _ _ (by omega)]; exact u2
end
