/-! tests: the reference's row of signs that wait -/
def lF (i1 : Int32) (k0 : Unit → mm_S → Option mm_S) (v : Unit) (σ : mm_S) : Option mm_S :=
    if (σ.1 214 16) ≤ 0 then
      some σ
    else
      gd ((σ.1 214 16) - (1 : Int32)) 400 <|
      bd (f_X10_strength (σ.1 221 ((σ.1 214 16) - (1 : Int32)).toNatClampNeg) σ) fun r5 σ4 =>
      if r5 < i1 then
        some σ4
      else
        lt (su_i σ4 214 16 ((σ4.1 214 16) - (1 : Int32))) fun σ7 =>
        gd (σ7.1 214 16) 400 <|
        bv (f_X10_puts 214 (σ7.1 221 (σ7.1 214 16).toNatClampNeg) (0 : Int32) σ7) fun σ11 =>
        gd (σ11.1 214 16) 400 <|
        if (σ11.1 221 (σ11.1 214 16).toNatClampNeg) = (11 : Int32) then
          lt (su_i σ11 214 13 ((σ11.1 214 13) - (1 : Int32))) fun σ14 =>
          k0 () σ14
        else
          k0 () σ11
def cF (k5 : Unit → mm_S → Option mm_S) (v : Unit) (σ : mm_S) : Option mm_S :=
    bd (f_X10_see 214 σ) fun r3 σ2 =>
    if r3 = (93 : Int32) then
      bd (f_X10_isInside 214 σ2) fun r7 σ6 =>
      if r7 = 0 then
        some σ6
      else
        bv (f_X10_layDown 214 (1 : Int32) σ6) fun σ10 =>
        lt (su_i σ10 214 16 ((σ10.1 214 16) - (1 : Int32))) fun σ11 =>
        lt (su_i σ11 214 13 ((σ11.1 214 13) - (1 : Int32))) fun σ13 =>
        lt (su_i σ13 214 8 ((σ13.1 214 8) + (1 : Int32))) fun σ15 =>
        bv (f_X10_layDown 214 (3 : Int32) σ15) fun σ18 =>
        k5 () σ18
    else
      some σ2
def fF (k2 : Int32 → mm_S → Option (Int32 × mm_S)) (v : Int32) (σ : mm_S) : Option (Int32 × mm_S) :=
    if v = 0 then
      bd (f_X10_compare 214 σ) fun r4 σ3 =>
      gb r4 <|
      some (r4, σ3)
    else
      bd (f_X10_see 214 σ) fun r8 σ7 =>
      bd (f_X10_isWord 214 (14836 : Int64) σ7) fun r11 σ10 =>
      if r11 = 0 then
        if r8 = (91 : Int32) then
          bd (f_X10_opens 214 (91 : Int32) σ10) fun r16 σ15 =>
          if r16 = 0 then
            some ((0 : Int32), σ15)
          else
            lt (su_i σ15 214 8 ((σ15.1 214 8) + (1 : Int32))) fun σ18 =>
            k2 (1 : Int32) σ18
        else
          k2 (0 : Int32) σ10
      else
        bd (f_X10_opens 214 (11 : Int32) σ10) fun r22 σ21 =>
        if r22 = 0 then
          some ((0 : Int32), σ21)
        else
          bv (f_X10_passWord 214 σ21) fun σ25 =>
          k2 (1 : Int32) σ25
def gF (k12 : Int32 → mm_S → Option (Int32 × mm_S)) (v : Int32) (σ : mm_S) : Option (Int32 × mm_S) :=
    if v = 0 then
      bd (f_X10_isInside 214 σ) fun r21 σ20 =>
      if r21 = 0 then
        bv (f_X10_layDown 214 (1 : Int32) σ20) fun σ24 =>
        some ((1 : Int32), σ24)
      else
        bd (f_X10_see 214 σ20) fun r27 σ26 =>
        bd (f_X10_fails 214 (0 : Int32) (σ26.1 214 8) σ26) fun r30 σ29 =>
        gb r30 <|
        some (r30, σ29)
    else
      bd (f_X10_fact 214 σ) fun r34 σ33 =>
      if r34 = 0 then
        some ((0 : Int32), σ33)
      else
        bv (f_X10_closes 214 σ33) fun σ37 =>
        bd (f_X10_isWord 214 (1476 : Int64) σ37) fun r40 σ39 =>
        if r40 = 0 then
          bd (f_X10_isWord 214 (498 : Int64) σ39) fun r44 σ43 =>
          if r44 = 0 then
            f_X10_tested_54 k12 214 (0 : Int32) σ43
          else
            f_X10_tested_54 k12 214 (1 : Int32) σ43
        else
          f_X10_tested_54 k12 214 (1 : Int32) σ39
theorem lay_eq (i : Int32) (ρ : mm_S) : f_X10_layDown 214 i ρ = lp lpN (lF i) () ρ := by
  unfold f_X10_layDown f_X10_layDown_0; exact congrFun (congrFun (congrArg (lp lpN) (funext fun k => funext fun v => funext fun σ => rfl)) ()) ρ
theorem clo_eq (ρ : mm_S) : f_X10_closes_5 214 ρ = lp lpN cF () ρ := by
  unfold f_X10_closes_5; exact congrFun (congrFun (congrArg (lp lpN) (funext fun k => funext fun v => funext fun σ => rfl)) ()) ρ
theorem fac_eq (ρ : mm_S) : f_X10_fact 214 ρ = lp lpN fF 1 ρ := by
  unfold f_X10_fact f_X10_fact_2; exact congrFun (congrFun (congrArg (lp lpN) (funext fun k => funext fun v => funext fun σ => rfl)) 1) ρ
theorem tes_eq (ρ : mm_S) : f_X10_tested_12 214 1 ρ = lp lpN gF 1 ρ := by
  unfold f_X10_tested_12; exact congrFun (congrFun (congrArg (lp lpN) (funext fun k => funext fun v => funext fun σ => rfl)) 1) ρ
def TL (nt : Nat) (s : mm_S) : Option (Int32 × mm_S) :=
        bd (f_X10_isWord 214 (1476 : Int64) s) fun r40 σ39 =>
        if r40 = 0 then
          bd (f_X10_isWord 214 (498 : Int64) σ39) fun r44 σ43 =>
          if r44 = 0 then
            f_X10_tested_54 (lp nt gF) 214 (0 : Int32) σ43
          else
            f_X10_tested_54 (lp nt gF) 214 (1 : Int32) σ43
        else
          f_X10_tested_54 (lp nt gF) 214 (1 : Int32) σ39
def C5 (nt nc : Nat) (s : mm_S) : Option (Int32 × mm_S) := bv (lp nc cF () s) (TL nt)
def D3 (nt nl nc : Nat) (s : mm_S) : Option (Int32 × mm_S) := bv (lp nl (lF 3) () s) (C5 nt nc)
def P1 (nt nf : Nat) (ρ : mm_S) : Option (Int32 × mm_S) := bd (lp nf fF 1 ρ) fun r s => if r = 0 then some (0, s) else D3 nt lpN lpN s
theorem bv_bv {ρ : Type} {x : Option mm_S} {k : mm_S → Option mm_S} {k' : mm_S → Option ρ} : bv (bv x k) k' = bv x (fun s => bv (k s) k') := by
  cases x with
  | none => rfl
  | some s => rw [bv_s, bv_s]
theorem bd_bv {ρ : Type} {x : Option mm_S} {k : mm_S → Option (Int32 × mm_S)} {k' : Int32 → mm_S → Option ρ} : bd (bv x k) k' = bv x (fun s => bd (k s) k') := by
  cases x with
  | none => rfl
  | some s => rw [bv_s, bv_s]
theorem gF_1 (nt : Nat) (ρ : mm_S) : lp (nt + 1) gF 1 ρ = P1 nt lpN ρ := by
  rw [lp_s]
  conv => lhs; unfold gF
  rw [if_neg (show ¬ ((1 : Int32) = 0) by decide), fac_eq]
  unfold P1
  congr 1
  funext r s
  by_cases c : r = 0
  · rw [if_pos c, if_pos c]
  · rw [if_neg c, if_neg c]
    unfold f_X10_closes D3
    rw [lay_eq, bv_bv]
    simp only [clo_eq]
    rfl
def JT (b : Nat → Int32) (L t : Nat) (B : Nat → Int32) (m : Nat) (R K : List Int32) (d : Nat) (ρ : mm_S) (q : Nat) : Prop :=
  JR b L t B m R ρ q ∧ ρ.1 214 16 = Int32.ofNat K.length ∧ (∀ i, i < K.length → ρ.1 221 i = K.getD i 0) ∧ ρ.1 214 13 = Int32.ofNat d
def str (s : Int32) : Int32 := if s = 13 then 1 else if s = 12 then 2 else if s = 11 then 3 else 0
theorem str_eq (s : Int32) (σ : mm_S) : f_X10_strength s σ = some (str s, σ) := by
  unfold f_X10_strength str
  repeat' (first | rfl | split)
section
variable {b : Nat → Int32} {L t m p e q d : Nat} {R K : List Int32} {B : Nat → Int32} {ρ : mm_S} {kd vl : Int32}
theorem JR_keep {ρ' : mm_S} (h : JR b L t B m R ρ q) (g : ag (fun a k => (a = 214 ∧ (k = 1 ∨ k = 8 ∨ k = 9 ∨ k = 11 ∨ k = 12)) ∨ a = 215 ∨ a = 216 ∨ a = 217) ρ ρ') : JR b L t B m R ρ' q := by
  obtain ⟨⟨h0, h1, h1'⟩, h2, h3, h4, h5, h6, h7, h8, h9⟩ := h
  exact ⟨⟨h0, (g _ _ (by omega)).trans h1, fun k => (g _ _ (by omega)).trans (h1' k)⟩, h2, (g _ _ (by omega)).trans h3, (g _ _ (by omega)).trans h4, (g _ _ (by omega)).trans h5, (g _ _ (by omega)).trans h6, (g _ _ (by omega)).trans h7, fun i hi => (g _ _ (by omega)).trans (h8 i hi), fun j hj => (g _ _ (by omega)).trans (h9 j hj)⟩
theorem JT_mv {q' : Nat} (h : JT b L t B m R K d ρ q) (hq : q' ≤ L) : JT b L t B m R K d (mv ρ q') q' :=
  ⟨JR_mv h.1 hq, (mv_o _ _ (by omega)).trans h.2.1, fun i hi => (mv_o _ _ (by omega)).trans (h.2.2.1 i hi), (mv_o _ _ (by omega)).trans h.2.2.2⟩
theorem JT_AG {ρ' : mm_S} {m' q' : Nat} {R' : List Int32} (h : JT b L t B m R K d ρ q) (h' : JR b L t B m' R' ρ' q') (g : AG ρ ρ') : JT b L t B m' R' K d ρ' q' :=
  ⟨h', (g _ _ (by omega)).trans h.2.1, fun i hi => (g _ _ (by omega)).trans (h.2.2.1 i hi), (g _ _ (by omega)).trans h.2.2.2⟩
theorem getD_last (K : List Int32) (s : Int32) : (K ++ [s]).getD K.length 0 = s := by
  rw [List.getD_eq_getElem?_getD, List.getElem?_append_right (Nat.le_refl _), Nat.sub_self]; rfl
theorem getD_init (K : List Int32) (s : Int32) {i : Nat} (h : i < K.length) : (K ++ [s]).getD i 0 = K.getD i 0 := by
  rw [List.getD_eq_getElem?_getD, List.getD_eq_getElem?_getD, List.getElem?_append_left h]
theorem lay_nil {n : Nat} {i : Int32} (h : JT b L t B m R [] d ρ q) : lp (n + 1) (lF i) () ρ = some ρ := by
  rw [lp_s]; unfold lF
  rw [h.2.1, if_pos (by decide)]
theorem lay_stop {n : Nat} {i s : Int32} (h : JT b L t B m R (K ++ [s]) d ρ q) (hK : K.length < 400) (hs : str s < i) : lp (n + 1) (lF i) () ρ = some ρ := by
  have lK : (K ++ [s]).length = K.length + 1 := by rw [List.length_append]; rfl
  rw [lp_s]; unfold lF
  rw [h.2.1, lK, if_neg (by rw [show (0 : Int32) = Int32.ofNat 0 from rfl, n_le (by omega) (by omega)]; omega), show (1 : Int32) = Int32.ofNat 1 from rfl, n_sub (by omega), Nat.add_sub_cancel, gd_n (by omega) (by omega), n_idx (by omega), h.2.2.1 _ (by omega), getD_last, str_eq, bd_s, if_pos hs]
theorem lay_pop {n d' : Nat} {i s : Int32} (ht : t < 6) (h : JT b L t B m R (K ++ [s]) d ρ q) (hK : K.length < 400) (hR : R.length < 400) (hs : ¬ (str s < i)) (hd : (s = 11 ∧ d = d' + 1) ∨ (s ≠ 11 ∧ d = d')) :
    ∃ ρ', lp (n + 1) (lF i) () ρ = lp n (lF i) () ρ' ∧ JT b L t B m (R ++ [s]) K d' ρ' q := by
  have lK : (K ++ [s]).length = K.length + 1 := by rw [List.length_append]; rfl
  have h16 : ρ.1 214 16 = Int32.ofNat (K.length + 1) := by rw [h.2.1, lK]
  have h221 : ρ.1 221 K.length = s := by rw [h.2.2.1 _ (by omega), getD_last]
  have h1 : JR b L t B m R (su_i ρ 214 16 (Int32.ofNat K.length)) q := JR_keep h.1 (ag_i (by omega))
  obtain ⟨ρ1, ep, K1, ag1⟩ := JR_puts ht h1 hR s 0
  rw [lz] at K1
  have a16 : ρ1.1 214 16 = Int32.ofNat K.length := by rw [ag1 _ _ (by omega), rd_is]
  have a221 : ∀ i, ρ1.1 221 i = ρ.1 221 i := fun i => by rw [ag1 _ _ (by omega), rd_ia _ _ _ _ _ _ (by omega)]
  have a13 : ρ1.1 214 13 = Int32.ofNat d := by rw [ag1 _ _ (by omega), rd_ik _ _ _ _ _ _ (by omega)]; exact h.2.2.2
  rw [lp_s]; unfold lF
  rw [h16, if_neg (by rw [show (0 : Int32) = Int32.ofNat 0 from rfl, n_le (by omega) (by omega)]; omega), show (1 : Int32) = Int32.ofNat 1 from rfl, n_sub (by omega), Nat.add_sub_cancel, gd_n (by omega) (by omega), n_idx (by omega), h221, str_eq, bd_s, if_neg hs, lt_eq, h16, n_sub (by omega), Nat.add_sub_cancel, rd_is, gd_n (by omega) (by omega), n_idx (by omega), rd_ia _ _ _ _ _ _ (by omega), h221, ep, bv_s, a16, gd_n (by omega) (by omega), n_idx (by omega), a221, h221]
  have opn' : ∀ i, i < K.length → ρ1.1 221 i = K.getD i 0 := fun i hi => by rw [a221, h.2.2.1 i (by omega), getD_init _ _ hi]
  rcases hd with ⟨rfl, rfl⟩ | ⟨s11, rfl⟩
  · rw [if_pos rfl, lt_eq, a13, n_sub (by omega), Nat.add_sub_cancel]
    exact ⟨_, rfl, JR_keep K1 (ag_i (by omega)), (rd_ik _ _ _ _ _ _ (by omega)).trans a16, fun i hi => (rd_ia _ _ _ _ _ _ (by omega)).trans (opn' i hi), rd_is _ _ _ _⟩
  · rw [if_neg s11]
    exact ⟨_, rfl, K1, a16, opn', a13⟩
theorem r_inK (h : JT b L t B m R K d ρ q) (hK : K.length ≤ 400) : f_X10_isInside 214 ρ = some (if (91 : Int32) ∈ K then 1 else 0, ρ) := by
  unfold f_X10_isInside f_X10_isInside_2
  refine wp_eq (wp_lp (fun n v τ => τ = ρ ∧ ∃ i, i ≤ K.length ∧ n = K.length - i ∧ v = Int32.ofNat i ∧ ∀ j, j < i → K.getD j 0 ≠ 91) ?_ lpN K.length _ _ (Nat.lt_of_le_of_lt hK (by decide)) ⟨rfl, 0, by omega, rfl, rfl, fun j hj => by omega⟩)
  rintro n rec v τ ⟨rfl, i, hi, rfl, rfl, hj⟩ hrec
  rw [h.2.1]
  simp (disch := omega) only [n_le]
  by_cases c : K.length ≤ i
  · rw [if_pos c, if_neg, wp_some]
    intro hm
    obtain ⟨j, hj1, hj2⟩ := List.mem_iff_getElem.mp hm
    exact hj j (by omega) (by rw [List.getD_eq_getElem?_getD, List.getElem?_eq_getElem hj1, hj2]; rfl)
  · rw [if_neg c, gd_n (by omega) (by omega), n_idx (by omega), h.2.2.1 i (by omega)]
    by_cases c2 : K.getD i 0 = 91
    · rw [if_pos c2, if_pos, wp_some]
      rw [← c2, List.getD_eq_getElem?_getD, List.getElem?_eq_getElem (by omega)]
      exact List.getElem_mem _
    · rw [if_neg c2, lt_eq, n_addI]
      refine hrec (K.length - (i + 1)) _ _ (by omega) ⟨rfl, i + 1, by omega, rfl, rfl, fun j hj' => ?_⟩
      by_cases e : j = i
      · rw [e]; exact c2
      · exact hj j (by omega)
/-- a sign that begins s -/
theorem r_opens {s : Int32} (h : JT b L t B m R K d ρ q) (hK : K.length < 400) (hd : d < 10) : ∃ ρ', f_X10_opens 214 s ρ = some (1, ρ') ∧ JT b L t B m R (K ++ [s]) (d + 1) ρ' q := by
  unfold f_X10_opens
  rw [h.2.2.2, if_neg (by rw [show (10 : Int32) = Int32.ofNat 10 from rfl, n_eq (by omega) (by omega)]; omega), show Int32.ofNat d + 1 = Int32.ofNat (d + 1) from n_add d 1, lt_eq, rd_ik _ _ _ _ _ _ (by omega), h.2.1, gd_n (by omega) (by omega), n_idx (by omega), lt_eq, rd_ia _ _ _ _ _ _ (by omega), rd_ik _ _ _ _ _ _ (by omega), h.2.1, lt_eq, show Int32.ofNat K.length + 1 = Int32.ofNat (K.length + 1) from n_add _ 1]
  have lK : (K ++ [s]).length = K.length + 1 := by rw [List.length_append]; rfl
  refine ⟨_, rfl, JR_keep h.1 (fun a k g => ?_), ?_, fun i hi => ?_, ?_⟩
  · rw [rd_ii, if_neg (by omega), rd_ii, if_neg (by omega), rd_ii, if_neg (by omega)]
  · rw [rd_is, lK]
  · rw [rd_ia _ _ _ _ _ _ (by omega)]
    by_cases c : i = K.length
    · rw [c, rd_is, getD_last]
    · rw [rd_ik _ _ _ _ _ _ c, rd_ia _ _ _ _ _ _ (by omega), h.2.2.1 i (by omega), getD_init _ _ (by omega)]
  · rw [rd_ik _ _ _ _ _ _ (by omega), rd_ia _ _ _ _ _ _ (by omega), rd_is]
theorem r_opens0 {s : Int32} (h : JT b L t B m R K 10 ρ q) : f_X10_opens 214 s ρ = some (0, su_i ρ 214 9 (fl q 2)) := by
  unfold f_X10_opens
  rw [h.2.2.2, if_pos (show Int32.ofNat 10 = 10 from rfl), h.1.2.2.1, JR_fails h.1, bd_s, gb_0]
/-! at a fact -/
theorem w_not (T : TK b L p kd vl e) (h : JT b L t B m R K d ρ q) (hs : sk b L q = p) : f_X10_isWord 214 (14836 : Int64) (mv ρ p) = some (if kd = 1 ∧ vl = 19 then 1 else 0, mv ρ p) := by
  have te := TK_e T
  have h1 := JT_mv (q' := p) h te.1
  have := t_word (k := 19) (by omega) h1.1.1 te.1 (mv_8 _ _) (TK_sk T) T
  rw [mv_mv] at this
  exact this
theorem p_not {nt nf : Nat} (hb : BR b) (T : TK b L p kd vl e) (h : JT b L t B m R K d ρ q) (hs : sk b L q = p) (hK : K.length < 400) (k1 : kd = 1 ∧ vl = 19) :
    (d = 10 → P1 nt (nf + 1) ρ = some (0, su_i (mv ρ p) 214 9 (fl p 2))) ∧ (d < 10 → ∃ ρ', P1 nt (nf + 1) ρ = P1 nt nf ρ' ∧ JT b L t B m R (K ++ [11]) (d + 1) ρ' e) := by
  have te := TK_e T
  have h1 := JT_mv (q' := p) h te.1
  have step : P1 nt (nf + 1) ρ = bd (bd (f_X10_opens 214 (11 : Int32) (mv ρ p)) fun r22 σ21 => if r22 = 0 then some ((0 : Int32), σ21) else bv (f_X10_passWord 214 σ21) fun σ25 => lp nf fF (1 : Int32) σ25) fun r s => if r = 0 then some (0, s) else D3 nt lpN lpN s := by
    unfold P1
    rw [lp_s]
    rw [fF]
    rw [if_neg (show ¬ ((1 : Int32) = 0) by decide), JR_see h.1 hs, bd_s, w_not T h hs, bd_s, if_pos k1, if_neg (show ¬ ((1 : Int32) = 0) by decide)]
  constructor
  · rintro rfl
    rw [step, r_opens0 h1, bd_s, if_pos rfl, bd_s, if_pos rfl]
  · intro hd
    obtain ⟨ρ1, eo, h2⟩ := r_opens (s := 11) h1 hK hd
    have hee : e = ed isl b L p := by
      rcases T with ⟨-, h, -, -⟩ | ⟨-, -, -, h, -⟩ | ⟨-, -, h, -, -⟩ | ⟨-, -, -, -, h, -, -⟩
      · rw [k1.1] at h; exact absurd h (by decide)
      · exact h
      · rw [k1.1] at h; exact absurd h (by decide)
      · rw [k1.1] at h; exact absurd h (by decide)
    refine ⟨mv ρ1 e, ?_, JT_mv h2 te.2.1⟩
    rw [step, eo, bd_s, if_neg (show ¬ ((1 : Int32) = 0) by decide), r_passWord h2.1.1 h2.1.2.1 h2.1.2.2.1, ← hee, bv_s]
    rfl
theorem p_brk {nt nf : Nat} (hb : BR b) (T : TK b L p kd vl e) (h : JT b L t B m R K d ρ q) (hs : sk b L q = p) (hK : K.length < 400) (k3 : kd = 3 ∧ vl = 35) :
    (d = 10 → P1 nt (nf + 1) ρ = some (0, su_i (mv ρ p) 214 9 (fl p 2))) ∧ (d < 10 → ∃ ρ', P1 nt (nf + 1) ρ = P1 nt nf ρ' ∧ JT b L t B m R (K ++ [91]) (d + 1) ρ' e) := by
  have te := TK_e T
  have h1 := JT_mv (q' := p) h te.1
  obtain ⟨hp, he, hvl⟩ := TK_3 T k3.1
  have sn := se_n b L p
  have sp := sg_inv hb p (n := e - p) (by omega)
  have h91 : b p = 91 := sp.2.2.2.2.2.2.2.1.mp (hvl.symm.trans k3.2)
  have hc : ch b L p = 91 := (ch_iff (c := 91) hb T (by omega) (by decide) (by decide)).mpr ⟨k3.1, h91⟩
  have ee : e = p + 1 := by rw [he]; unfold se; rw [if_neg]; rintro ⟨h | h, -⟩ <;> rw [h91] at h <;> exact absurd h (by decide)
  have step : P1 nt (nf + 1) ρ = bd (bd (f_X10_opens 214 (91 : Int32) (mv ρ p)) fun r16 σ15 => if r16 = 0 then some ((0 : Int32), σ15) else lt (su_i σ15 214 8 ((σ15.1 214 8) + (1 : Int32))) fun σ18 => lp nf fF (1 : Int32) σ18) fun r s => if r = 0 then some (0, s) else D3 nt lpN lpN s := by
    unfold P1
    rw [lp_s]
    rw [fF]
    rw [if_neg (show ¬ ((1 : Int32) = 0) by decide), JR_see h.1 hs, bd_s, w_not T h hs, bd_s, if_neg (show ¬ (kd = 1 ∧ vl = 19) from fun q => by rw [k3.1] at q; exact absurd q.1 (by decide)), if_pos rfl, if_pos hc]
  constructor
  · rintro rfl
    rw [step, r_opens0 h1, bd_s, if_pos rfl, bd_s, if_pos rfl]
  · intro hd
    obtain ⟨ρ1, eo, h2⟩ := r_opens (s := 91) h1 hK hd
    refine ⟨mv ρ1 e, ?_, JT_mv h2 te.2.1⟩
    rw [step, eo, bd_s, if_neg (show ¬ ((1 : Int32) = 0) by decide), lt_eq, h2.1.2.2.1, show Int32.ofNat p + 1 = Int32.ofNat (p + 1) from n_add p 1, ee]
    rfl
theorem p_cmp {nt nf : Nat} (hb : BR b) (T : TK b L p kd vl e) (h : JT b L t B m R K d ρ q) (hs : sk b L q = p) (n1 : ¬ (kd = 1 ∧ vl = 19)) (n3 : ¬ (kd = 3 ∧ vl = 35)) :
    P1 nt (nf + 2) ρ = bd (bd (f_X10_compare 214 (mv ρ p)) fun r4 σ3 => gb r4 <| some (r4, σ3)) fun r s => if r = 0 then some (0, s) else D3 nt lpN lpN s := by
  have hc : ¬ (ch b L p = 91) := by
    intro hc
    obtain ⟨k3, h91⟩ := (ch_iff (c := 91) hb T (by omega) (by decide) (by decide)).mp hc
    obtain ⟨hp, he, hvl⟩ := TK_3 T k3
    have sn := se_n b L p
    have sp := sg_inv hb p (n := e - p) (by omega)
    exact n3 ⟨k3, hvl.trans (sp.2.2.2.2.2.2.2.1.mpr h91)⟩
  unfold P1
  rw [show nf + 2 = (nf + 1) + 1 from rfl, lp_s]
  rw [fF]
  rw [if_neg (show ¬ ((1 : Int32) = 0) by decide), JR_see h.1 hs, bd_s, w_not T h hs, bd_s, if_neg n1, if_pos rfl, if_neg hc, lp_s]
  rw [fF]
  rw [if_pos rfl]
end
