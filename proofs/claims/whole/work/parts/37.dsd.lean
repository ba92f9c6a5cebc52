/-! dear; a clause; a whole HOUSE in step -/
theorem rng_n {n : Nat} {vl : Int32} (hn : n ≤ 6) (h : ¬ (vl < 0 ∨ Int32.ofNat n - 1 < vl)) : ∃ t, t < n ∧ vl = Int32.ofNat t := by
  rcases isl_cases (n := n) (by omega) vl with ⟨l, hl, el⟩ | q
  · exact ⟨l, hl, el⟩
  · exfalso; apply h
    rcases q with q | q
    · exact Or.inl q
    · right
      by_cases c : n = 0
      · subst c
        rw [Int32.le_iff_toInt_le, n_int (by omega)] at q
        rw [Int32.lt_iff_toInt_lt, show (Int32.ofNat 0 - 1).toInt = -1 by decide]; omega
      · rw [show (1 : Int32) = Int32.ofNat 1 from rfl, n_sub (by omega)]
        rw [Int32.le_iff_toInt_le, n_int (by omega)] at q
        rw [Int32.lt_iff_toInt_lt, n_int (by omega)]; omega
section
variable {b : Nat → Int32} {L p e q n N p0 : Nat} {σ ρ : mm_S} {kd vl : Int32}
theorem h_dear (c : CP b L σ p kd vl e) (f0 : σ.1 3 9 = 0) (s0 : σ.1 7 0 = 0) (hn : n ≤ 6) (X : HXr n σ ρ) (ns : NZ b L ρ q) (hs : sk b L q = p) (hp : p0 < p) (z1 : ρ.1 220 0 = 1) (t6 : ρ.1 214 11 = 6) (tN : ρ.1 214 14 = Int32.ofNat N) :
    wp (bd (f_X4_readNumber 3 0 ((σ.1 7 3) - 1) (-1) σ) fun r13 σ12 => bd (f_X4_readNumber 3 0 ((σ12.1 7 3) - 1) r13 σ12) fun r16 σ15 => bd (f_X4_readNumber 3 0 9 (-1) σ15) fun r19 σ18 => bv (f_X1_setDearness 7 r13 r16 r19 σ18) fun σ21 => some σ21)
      (KOh b L N p0 (gd (3 : Int32) 90 <| bd (f_X10_numberHere 214 0 ((ρ.1 220 (3 : Int32).toNatClampNeg) - 1) ρ) fun r34 σ33 => if r34 = 0 then some ((0 : Int32), σ33) else lt ((σ33.1 214 10)) fun x36 => bd (f_X10_see 214 σ33) fun r40 σ39 => lt ((σ39.1 214 8)) fun x41 => gd (3 : Int32) 90 <| bd (f_X10_numberHere 214 0 ((σ39.1 220 (3 : Int32).toNatClampNeg) - 1) σ39) fun r46 σ45 => if r46 = 0 then some ((0 : Int32), σ45) else if x36 = (σ45.1 214 10) then bd (f_X10_fails 214 (1 : Int32) x41 σ45) fun r55 σ54 => gb r55 <| some (r55, σ54) else bd (f_X10_cellHere 214 (((53 : Int32) + ((6 : Int32) * x36)) + (σ45.1 214 10)) 0 9 σ45) fun r51 σ50 => gb r51 <| some (r51, σ50))) := by
  have g3' : ∀ {α : Type} (y : Option α), gd (3 : Int32) 90 y = y := fun y => gd_n (k := 3) (by omega) (by omega)
  have i3 : (3 : Int32).toNatClampNeg = 3 := n_idx (k := 3) (by omega)
  simp only [g3', i3]
  obtain ⟨⟨x1, x2, x3, x3', x4⟩, x5, x6, x7, x8, x9, x10, x11⟩ := id X
  rw [x3, x3']
  rcases J_num1 0 (Int32.ofNat n - 1) (by decide) c f0 hn x3' ns hs with ⟨f, σ1, e1, F, rf⟩ | ⟨cr, ρ1, σ1, kd1, vl1, e1, h1, h2, h3, h4, h5, h6, h7, h8, h9⟩
  · obtain ⟨σ2, ea, F2⟩ := FH_dear F 0 0 0
    rw [e1, bd_s, FH_num F, bd_s, FH_num F, bd_s, ea, bv_s, wp_some]
    refine Or.inl ⟨f, F2, ?_⟩
    obtain ⟨⟨r, s⟩, er, r0, r9⟩ := rf
    dsimp only at r0 r9
    rw [er, bd_s, if_pos r0]; exact wp_some.mpr ⟨rfl, r9⟩
  · have te1 := TK_e (CP_TK h6)
    have ns1 := NZ_mv (q' := sk b L e) h2 te1.1
    have s73 : σ1.1 7 3 = Int32.ofNat n := (h9 _ _ (by omega)).trans x3'
    rw [h5, bd_s, s73, h1, bd_s, if_neg (show ¬ ((1 : Int32) = 0) by decide), lt_eq, h3, r_see h2.1 h2.2.1 h2.2.2.1, bd_s, mv_8, lt_eq, mv_o _ _ (show ¬ (220 = 214 ∧ 3 = 8) by omega), h4 220 3 (by omega), x3]
    rcases J_num 0 (Int32.ofNat n - 1) vl (by decide) h6 h8 hn s73 ns1 (sk_idem _ _ _) with ⟨f, σ2, e2, F, rf⟩ | ⟨cr2, ρ2, g1, g2, g3, g4, hcase⟩
    · obtain ⟨σ3, ea, F2⟩ := FH_dear F vl 0 0
      rw [e2, bd_s, FH_num F, bd_s, ea, bv_s, wp_some]
      refine Or.inl ⟨f, F2, ?_⟩
      obtain ⟨⟨r, s⟩, er, r0, r9⟩ := rf
      dsimp only at r0 r9
      rw [er, bd_s, if_pos r0]; exact wp_some.mpr ⟨rfl, r9⟩
    · rw [g1, bd_s, if_neg (show ¬ ((1 : Int32) = 0) by decide), g3]
      rcases hcase with ⟨vb, σ2, e2, F⟩ | ⟨vb, σ2, kd2, vl2, e2, g5, g6, g7, g8, g9⟩
      · obtain ⟨σ3, ea, F2⟩ := FH_dear F vl 0 0
        rw [e2, bd_s, FH_num F, bd_s, ea, bv_s, wp_some, if_pos vb.symm, r_fails g2.2.2.2, bd_s, gb_0]
        exact Or.inl ⟨_, F2, wp_some.mpr ⟨rfl, rd_is _ _ _ _⟩⟩
      · rw [g5, bd_s, if_neg (fun q => vb q.symm)]
        obtain ⟨a1, ha1, ev⟩ := rng_n hn cr
        obtain ⟨a2, ha2, ev2⟩ := rng_n hn cr2
        have s73' : σ2.1 7 3 = Int32.ofNat n := (g9 _ _ (by omega)).trans s73
        have ec : (53 : Int32) + 6 * vl + vl1 = Int32.ofNat (53 + 6 * a1 + a2) := by
          rw [ev, ev2, show (53 : Int32) = Int32.ofNat 53 from rfl, show (6 : Int32) = Int32.ofNat 6 from rfl, n_mul, n_add, n_add]
        have ed1 : vl * 6 + vl1 = Int32.ofNat (6 * a1 + a2) := by
          rw [ev, ev2, show (6 : Int32) = Int32.ofNat 6 from rfl, n_mul, n_add]; congr 1; omega
        rw [ec]
        rcases J_num1 0 9 (by decide) g6 g8 hn s73' g2 rfl with ⟨f, σ3, e3, F, rf⟩ | ⟨cr3, ρ3, σ3, kd3, vl3, e3, k1, k2, k3, k4, k5, k6, k7, k8, k9⟩
        · obtain ⟨σ4, ea, F2⟩ := FH_dear F vl vl1 0
          rw [e3, bd_s, ea, bv_s, wp_some]
          refine Or.inl ⟨f, F2, ?_⟩
          obtain ⟨⟨r, s⟩, er, r0, r9⟩ := r_cell0 (c := Int32.ofNat (53 + 6 * a1 + a2)) rf
          dsimp only at r0 r9
          rw [er, bd_s, r0, gb_0]; exact wp_some.mpr ⟨rfl, r9⟩
        · have eset : f_X1_setDearness 7 vl vl1 vl2 σ3 = some (su_i σ3 10 (6 * a1 + a2) vl2) := by
            unfold f_X1_setDearness
            rw [lt_eq, ed1, if_neg (n_neg (by omega)), if_neg (by rw [n_le (by omega) (by omega)]; omega), gd_n (by omega) (by omega), n_idx (by omega), lt_eq]
          rw [k5, bd_s, eset, bv_s, wp_some, r_cell1 (c := 53 + 6 * a1 + a2) (by omega) k1, bd_s, gb_1, k3]
          have σo : ∀ a k, a ≠ 3 → ¬ (a = 10 ∧ k = 6 * a1 + a2) → (su_i σ3 10 (6 * a1 + a2) vl2).1 a k = σ.1 a k := fun a k q1 q2 => by rw [rd_ii, if_neg q2, k9 _ _ q1, g9 _ _ q1, h9 _ _ q1]
          have ρo : ∀ a k, ¬ (a = 214 ∧ (k = 8 ∨ k = 10)) → ¬ (a = 220 ∧ k = 53 + 6 * a1 + a2) → (su_i ρ3 220 (53 + 6 * a1 + a2) vl2).1 a k = ρ.1 a k := fun a k q1 q2 => by rw [rd_ii, if_neg q2, k4 _ _ q1, g4 _ _ q1, mv_o _ _ (by omega), h4 _ _ q1]
          refine Or.inr ⟨_, n, e2, sk b L e2, kd3, vl3, e3, rfl, CP_keep k6 (ag_i (by omega)), (rd_ia _ _ _ _ _ _ (by omega)).trans k8, ?_, NZ_keep k2 (ag_i (by omega)), rfl, by omega, hn, ⟨⟨?_, ?_, ?_, ?_, ?_⟩, fun l hl => ?_, fun l hl => ?_, ?_, ?_, fun l hl => ?_, fun l hl => ?_, fun l h1 hl => ?_⟩, ?_, ?_, ?_⟩
          · rw [σo _ _ (by omega) (by omega)]; exact s0
          · rw [ρo _ _ (by omega) (by omega), σo _ _ (by omega) (by omega)]; exact x1
          · rw [ρo _ _ (by omega) (by omega), σo _ _ (by omega) (by omega)]; exact x2
          · rw [ρo _ _ (by omega) (by omega)]; exact x3
          · rw [σo _ _ (by omega) (by omega)]; exact x3'
          · rw [ρo _ _ (by omega) (by omega), σo _ _ (by omega) (by omega)]; exact x4
          · rw [ρo _ _ (by omega) (by omega), ρo _ _ (by omega) (by omega), σo _ _ (by omega) (by omega), σo _ _ (by omega) (by omega)]; exact x5 l hl
          · by_cases cl : l = 6 * a1 + a2
            · subst cl
              rw [show 53 + (6 * a1 + a2) = 53 + 6 * a1 + a2 by omega, rd_is, rd_is]
            · rw [ρo _ _ (by omega) (by omega), σo _ _ (by omega) (by omega)]; exact x6 l hl
          · rw [σo _ _ (by omega) (by omega)]; exact x7
          · rw [σo _ _ (by omega) (by omega)]; exact x8
          · rw [σo _ _ (by omega) (by omega)]; exact x9 l hl
          · rw [σo _ _ (by omega) (by omega)]; exact x10 l hl
          · rw [σo _ _ (by omega) (by omega)]; exact x11 l h1 hl
          · rw [ρo _ _ (by omega) (by omega)]; exact z1
          · rw [ρo _ _ (by omega) (by omega)]; exact t6
          · rw [ρo _ _ (by omega) (by omega)]; exact tN
theorem z_k {k : Nat} (hk : k < 20) (T : TK b L p kd vl e) (h : NZ b L ρ q) (hs : sk b L q = p) : f_X10_isWord 214 (WK k) ρ = some (if kd = 1 ∧ vl = Int32.ofNat k then 1 else 0, mv ρ p) := t_word hk h.1 h.2.1 h.2.2.1 hs T
theorem NZ_i {a k : Nat} {x : Int32} (h : NZ b L ρ q) (g : ¬ (a = 214 ∧ (k = 1 ∨ k = 8 ∨ k = 9)) ∧ a ≠ 215) : NZ b L (su_i ρ a k x) q := NZ_keep h (ag_i (by intro c d; omega))
theorem gbX {X : Option (Int32 × mm_S)} {σ' : mm_S} (h : KOh b L N p0 X σ') : KOh b L N p0 (bd X fun r s => gb r <| some (r, s)) σ' := by
  rcases h with ⟨f, F, ⟨⟨r, s⟩, er, r0, r9⟩⟩ | ⟨ρ', n', q', p', kd', vl', e', h1, h2⟩
  · dsimp only at r0 r9
    refine Or.inl ⟨f, F, ?_⟩
    rw [er, bd_s, r0, gb_0]; exact wp_some.mpr ⟨rfl, r9⟩
  · refine Or.inr ⟨ρ', n', q', p', kd', vl', e', ?_, h2⟩
    rw [h1, bd_s, gb_1]
/-- a clause of a HOUSE -/
theorem J_hcl (hb : BR b) (c : CP b L σ p kd vl e) (f0 : σ.1 3 9 = 0) (s0 : σ.1 7 0 = 0) (hn : n ≤ 6) (X : HXr n σ ρ) (ns : NZ b L ρ q) (hs : sk b L q = p) (z1 : ρ.1 220 0 = if N = 0 then 0 else 1) (t6 : ρ.1 214 11 = 6) (tN : ρ.1 214 14 = Int32.ofNat N) (hN : N ≤ 40) :
    wp (f_X4_readHouseClause 3 7 (Int32.ofNat N) σ) (KOh b L (N + 1) p (f_X10_clauseHere 214 ρ)) := by
  have T := CP_TK c
  have te := TK_e T
  have ps := TK_sk T
  have cc := CP_c c
  have hL := cc.2.2.2
  have ns1 := NZ_mv (q' := p) ns te.1
  have wd : ∀ k, k < 20 → f_X10_isWord 214 (WK k) (mv ρ p) = some (if kd = 1 ∧ vl = Int32.ofNat k then 1 else 0, mv ρ p) := fun k hk => by rw [z_k hk T ns1 ps, mv_mv]
  have wd13 : f_X10_isWord 214 (8902245 : Int64) (mv ρ p) = some (if kd = 1 ∧ vl = 13 then 1 else 0, mv ρ p) := wd 13 (by omega)
  have wd0 : f_X10_isWord 214 (418520242 : Int64) (mv ρ p) = some (if kd = 1 ∧ vl = 0 then 1 else 0, mv ρ p) := wd 0 (by omega)
  have wd6 : f_X10_isWord 214 (136242 : Int64) (mv ρ p) = some (if kd = 1 ∧ vl = 6 then 1 else 0, mv ρ p) := wd 6 (by omega)
  have wd14 : f_X10_isWord 214 (3659220 : Int64) (mv ρ p) = some (if kd = 1 ∧ vl = 14 then 1 else 0, mv ρ p) := wd 14 (by omega)
  have fail : ∀ w, w < 8 → f_X4_fail 3 (Int32.ofNat w) σ = some (su_i σ 3 9 (fl p (Int32.ofNat w))) ∧ FH b L (fl p (Int32.ofNat w)) (su_i σ 3 9 (fl p (Int32.ofNat w))) := by
    intro w hw
    refine ⟨?_, ⟨⟨p, kd, vl, e, CP_keep c (ag_i (by omega))⟩, rd_is _ _ _ _, fl_0 (by omega) hw, n, hn, (rd_ia _ _ _ _ _ _ (by omega)).trans X.1.2.2.2.1⟩⟩
    unfold f_X4_fail; rw [if_pos f0, cc.2.2.1]; rfl
  have f4 := fail 4 (by omega)
  have f0' := fail 0 (by omega)
  rw [show (Int32.ofNat 4) = 4 from rfl] at f4
  rw [show (Int32.ofNat 0) = 0 from rfl] at f0'
  have c24 : f_X10_clauseHere 214 ρ = f_X10_clauseHere_24 214 (Int32.ofNat p) 1 (mv ρ p) := by
    unfold f_X10_clauseHere
    rw [r_see ns.1 ns.2.1 ns.2.2.1, hs, bd_s, lt_eq, mv_8, mv_o _ _ (by omega), t6, if_pos rfl]
  have m14 : (mv ρ p).1 214 14 = Int32.ofNat N := (mv_o _ _ (by omega)).trans tN
  have f4r : ∀ ρ' : mm_S, ρ'.1 214 9 = 0 → RFh (bd (f_X10_fails 214 (4 : Int32) (Int32.ofNat p) ρ') fun r s => gb r <| some (r, s)) (fl p 4) := fun ρ' h => by
    rw [r_fails h, bd_s, gb_0]; exact wp_some.mpr ⟨rfl, rd_is _ _ _ _⟩
  unfold f_X4_readHouseClause
  rw [x_isWord4 c, bd_s, x_isWord4 c, bd_s, x_isWord4 c, bd_s, x_isWord4 c, bd_s, c24]
  unfold f_X10_clauseHere_24 f_X10_isHouseWord
  rw [if_neg (show ¬ ((1 : Int32) = 0) by decide), wd13, bd_s, wd0, bd_s, wd6, bd_s, wd14, bd_s]
  have h10 : ((1 : Int32) = 0) = False := eq_false (by decide)
  have h01 : ((0 : Int32) = 1) = False := eq_false (by decide)
  -- the reference behind the count of lines
  have c56 : f_X10_clauseHere_56 214 (Int32.ofNat p) 1 (mv ρ p) = if N = 40 then (bd (f_X10_fails 214 (4 : Int32) (Int32.ofNat p) (mv ρ p)) fun r s => gb r <| some (r, s)) else bd (f_X10_houseLineHere 214 (Int32.ofNat p) (su_i (mv ρ p) 214 14 (Int32.ofNat (N + 1)))) fun r s => gb r <| some (r, s) := by
    unfold f_X10_clauseHere_56 f_X10_clauseHere_71
    rw [if_neg (show ¬ ((1 : Int32) = 0) by decide), m14, show (40 : Int32) = Int32.ofNat 40 from rfl]
    by_cases c40 : N = 40
    · rw [if_pos c40, c40, if_pos rfl]
    · rw [if_neg c40, if_neg (by rw [n_eq (by omega) (by omega)]; exact c40), lt_eq, if_neg (show ¬ ((1 : Int32) = 0) by decide), show Int32.ofNat N + 1 = Int32.ofNat (N + 1) from n_add N 1]
  have e51 : ∀ i3 i4 i5 : Int32, f_X4_readHouseClause_51 3 7 (Int32.ofNat N) i3 i4 i5 σ = f_X4_readHouseClause_60 3 7 (Int32.ofNat N) i3 i4 i5 (if N = 0 then 1 else 0) σ := by
    intro i3 i4 i5
    unfold f_X4_readHouseClause_51
    by_cases c0 : N = 0
    · rw [if_pos ((n_zero (by omega)).mpr c0), if_pos c0]
    · rw [if_neg (fun q => c0 ((n_zero (by omega)).mp q)), if_neg c0]
  have bad4 : ∀ Y : Option (Int32 × mm_S), RFh Y (fl p 4) → wp (bv (f_X4_fail 3 4 σ) fun σ' => some σ') (KOh b L (N + 1) p Y) := by
    intro Y rf
    rw [f4.1, bv_s, wp_some]; exact Or.inl ⟨_, f4.2, rf⟩
  have w0 : (mv ρ p).1 214 9 = 0 := ns1.2.2.2
  -- of a word that begins a clause
  have main : ∀ i3 i4 i5 : Int32, ((i3 = 1 ∧ i4 = 0 ∧ i5 = 0 ∧ kd = 1 ∧ vl = 13) ∨ (i3 = 0 ∧ i4 = 1 ∧ i5 = 0 ∧ kd = 1 ∧ vl = 0) ∨ (i3 = 0 ∧ i4 = 0 ∧ i5 = 1 ∧ kd = 1 ∧ vl = 6) ∨ (i3 = 0 ∧ i4 = 0 ∧ i5 = 0 ∧ kd = 1 ∧ vl = 14)) → wp (f_X4_readHouseClause_51 3 7 (Int32.ofNat N) i3 i4 i5 σ) (KOh b L (N + 1) p (f_X10_clauseHere_56 214 (Int32.ofNat p) 1 (mv ρ p))) := by
    intro i3 i4 i5 hi
    have k1 : kd = 1 := by rcases hi with ⟨-, -, -, h, -⟩ | ⟨-, -, -, h, -⟩ | ⟨-, -, -, h, -⟩ | ⟨-, -, -, h, -⟩ <;> exact h
    obtain ⟨hee, hp⟩ := TK_w T k1
    rw [e51, c56]
    unfold f_X4_readHouseClause_60
    rw [show (40 : Int32) = Int32.ofNat 40 from rfl]
    simp (disch := omega) only [n_le]
    by_cases c40 : N = 40
    · rw [if_pos (by omega), if_pos c40]; exact bad4 _ (f4r _ w0)
    · rw [if_neg (by omega), if_neg c40]
      obtain ⟨i, kd1, vl1, e1, s1, s2⟩ := x_step c hp
      have pp : p < sk b L e := Nat.lt_of_lt_of_le (te.2.2.2 hp) (ed_le isb b L e)
      have g0 : (st σ i).1 3 9 = 0 := (st_o _ _ (by omega)).trans f0
      have g70 : (st σ i).1 7 0 = 0 := (st_o _ _ (by omega)).trans s0
      have ρo : ∀ a k, ¬ (a = 214 ∧ (k = 8 ∨ k = 14)) → (su_i (mv ρ p) 214 14 (Int32.ofNat (N + 1))).1 a k = ρ.1 a k := fun a k q => by rw [rd_ii, if_neg (by omega), mv_o _ _ (by omega)]
      have ρ14 : (su_i (mv ρ p) 214 14 (Int32.ofNat (N + 1))).1 214 14 = Int32.ofNat (N + 1) := rd_is _ _ _ _
      have ns2 : NZ b L (su_i (mv ρ p) 214 14 (Int32.ofNat (N + 1))) p := NZ_i ns1 (by omega)
      generalize su_i (mv ρ p) 214 14 (Int32.ofNat (N + 1)) = ρ' at ρo ρ14 ns2
      have wk : ∀ k, k < 20 → f_X10_isWord 214 (WK k) ρ' = some (if kd = 1 ∧ vl = Int32.ofNat k then 1 else 0, ρ') := fun k hk => by rw [z_k hk T ns2 ps, mv_self ns2.2.2.1]
      have wk13 : f_X10_isWord 214 (8902245 : Int64) ρ' = some (if kd = 1 ∧ vl = 13 then 1 else 0, ρ') := wk 13 (by omega)
      have wk0 : f_X10_isWord 214 (418520242 : Int64) ρ' = some (if kd = 1 ∧ vl = 0 then 1 else 0, ρ') := wk 0 (by omega)
      have wk6 : f_X10_isWord 214 (136242 : Int64) ρ' = some (if kd = 1 ∧ vl = 6 then 1 else 0, ρ') := wk 6 (by omega)
      have z2 : ρ'.1 220 0 = if N = 0 then 0 else 1 := (ρo _ _ (by omega)).trans z1
      have pw : f_X10_passWord 214 ρ' = some (mv ρ' e) := by rw [r_passWord ns2.1 ns2.2.1 ns2.2.2.1, ← hee]
      have ns3 := NZ_mv (q' := e) ns2 te.2.1
      have X3 : HXr n (st σ i) (mv ρ' e) := HXr_keep X (fun a k q => st_o _ _ (by omega)) (fun a k q => by rw [mv_o _ _ (by omega), ρo _ _ (by omega)])
      have t63 : (mv ρ' e).1 214 11 = 6 := (mv_o _ _ (by omega)).trans ((ρo _ _ (by omega)).trans t6)
      have tN3 : (mv ρ' e).1 214 14 = Int32.ofNat (N + 1) := (mv_o _ _ (by omega)).trans ρ14
      have z3 : ¬ (N = 0) → (mv ρ' e).1 220 0 = 1 := fun h => by rw [mv_o _ _ (by omega), z2, if_neg h]
      have w2 : ρ'.1 214 9 = 0 := ns2.2.2.2
      have gd0 : ∀ {α : Type} (y : Option α), gd (0 : Int32) 90 y = y := fun y => gd_n (k := 0) (by omega) (by omega)
      have i0 : (0 : Int32).toNatClampNeg = 0 := n_idx (k := 0) (by omega)
      have gd3 : ∀ {α : Type} (y : Option α), gd (3 : Int32) 90 y = y := fun y => gd_n (k := 3) (by omega) (by omega)
      have i3' : (3 : Int32).toNatClampNeg = 3 := n_idx (k := 3) (by omega)
      have rfgb : ∀ Y : Option (Int32 × mm_S), RFh Y (fl p 4) → RFh (bd Y fun r s => gb r <| some (r, s)) (fl p 4) := by
        rintro Y ⟨⟨r, s⟩, er, r0, r9⟩
        dsimp only at r0 r9
        rw [er, bd_s, r0, gb_0]; exact wp_some.mpr ⟨rfl, r9⟩
      unfold f_X10_houseLineHere
      rw [wk13, bd_s]
      rcases hi with ⟨rfl, rfl, rfl, -, hv⟩ | ⟨rfl, rfl, rfl, -, hv⟩ | ⟨rfl, rfl, rfl, -, hv⟩ | ⟨rfl, rfl, rfl, -, hv⟩
      · -- house
        rw [if_pos (show kd = 1 ∧ vl = 13 from ⟨k1, hv⟩), if_neg (show ¬ ((1 : Int32) = 0) by decide)]
        unfold f_X10_isHouseHere
        rw [gd0, i0, z2]
        by_cases c0 : N = 0
        · rw [if_pos c0, if_pos c0, if_pos rfl, if_pos rfl, if_pos (show (0 : Int32) ≤ 0 by decide), pw, bv_s]
          unfold f_X4_readHouseClause_94
          rw [s1, bv_s, if_neg (show ¬ ((1 : Int32) = 0) by decide)]
          exact wp_mono (h_house s2 g0 g70 hn X3 ns3 rfl pp t63 tN3) (fun σ' h => gbX (gbX h))
        · rw [if_neg c0, if_neg c0, if_neg (show ¬ ((1 : Int32) = 0) by decide), if_neg (show ¬ ((1 : Int32) ≤ 0) by decide)]
          exact bad4 _ (rfgb _ (rfgb _ (f4r _ w2)))
      · -- lodger
        rw [if_neg (show ¬ (kd = 1 ∧ vl = 13) from fun q => by rw [hv] at q; exact absurd q.2 (by decide)), if_pos rfl, gd0, i0, z2]
        by_cases c0 : N = 0
        · rw [if_pos c0, if_pos c0, if_neg (show ¬ ((0 : Int32) = 1) by decide), if_pos rfl]
          exact bad4 _ (rfgb _ (f4r _ w2))
        · rw [if_neg c0, if_neg c0, if_pos rfl, if_neg (show ¬ ((1 : Int32) = 0) by decide), if_neg (show ¬ ((1 : Int32) = 0) by decide), wk0, bd_s, if_pos (show kd = 1 ∧ vl = 0 from ⟨k1, hv⟩), if_neg (show ¬ ((1 : Int32) = 0) by decide)]
          unfold f_X10_isLodgerHere
          rw [gd3, i3', ρo _ _ (by omega), X.1.2.2.1, X.1.2.2.2.1]
          by_cases n6 : n = 6
          · subst n6
            rw [if_neg (by decide), if_pos (show Int32.ofNat 6 = 6 from rfl)]
            exact bad4 _ (rfgb _ (rfgb _ (f4r _ w2)))
          · rw [if_pos (by rw [show (6 : Int32) = Int32.ofNat 6 from rfl, n_lt (by omega) (by omega)]; omega), if_neg (by rw [show (6 : Int32) = Int32.ofNat 6 from rfl, n_eq (by omega) (by omega)]; exact n6), pw, bv_s]
            unfold f_X4_readHouseClause_94
            rw [s1, bv_s, if_pos rfl, if_neg (show ¬ ((1 : Int32) = 0) by decide)]
            have := h_lodger s2 g0 g70 (by omega) X3 ns3 rfl pp (z3 c0) t63 tN3
            simp only [gd3, i3'] at this ⊢
            exact wp_mono this (fun σ' h => gbX (gbX h))
      · -- dear
        rw [if_neg (show ¬ (kd = 1 ∧ vl = 13) from fun q => by rw [hv] at q; exact absurd q.2 (by decide)), if_pos rfl, gd0, i0, z2]
        by_cases c0 : N = 0
        · rw [if_pos c0, if_pos c0, if_neg (show ¬ ((0 : Int32) = 1) by decide), if_pos rfl]
          exact bad4 _ (rfgb _ (f4r _ w2))
        · rw [if_neg c0, if_neg c0, if_pos rfl, if_pos rfl, if_neg (show ¬ ((1 : Int32) = 0) by decide), wk0, bd_s, if_neg (show ¬ (kd = 1 ∧ vl = 0) from fun q => by rw [hv] at q; exact absurd q.2 (by decide)), if_pos rfl, wk6, bd_s, if_pos (show kd = 1 ∧ vl = 6 from ⟨k1, hv⟩), if_neg (show ¬ ((1 : Int32) = 0) by decide)]
          unfold f_X10_isDearHere f_X4_readHouseClause_94
          rw [pw, bv_s, s1, bv_s, if_pos rfl, if_pos rfl, if_neg (show ¬ ((1 : Int32) = 0) by decide)]
          exact wp_mono (h_dear s2 g0 g70 hn X3 ns3 rfl pp (z3 c0) t63 tN3) (fun σ' h => gbX (gbX h))
      · -- count
        rw [if_neg (show ¬ (kd = 1 ∧ vl = 13) from fun q => by rw [hv] at q; exact absurd q.2 (by decide)), if_pos rfl, gd0, i0, z2]
        by_cases c0 : N = 0
        · rw [if_pos c0, if_pos c0, if_neg (show ¬ ((0 : Int32) = 1) by decide), if_pos rfl]
          exact bad4 _ (rfgb _ (f4r _ w2))
        · rw [if_neg c0, if_neg c0, if_pos rfl, if_pos rfl, if_neg (show ¬ ((1 : Int32) = 0) by decide), wk0, bd_s, if_neg (show ¬ (kd = 1 ∧ vl = 0) from fun q => by rw [hv] at q; exact absurd q.2 (by decide)), if_pos rfl, wk6, bd_s, if_neg (show ¬ (kd = 1 ∧ vl = 6) from fun q => by rw [hv] at q; exact absurd q.2 (by decide)), if_pos rfl]
          unfold f_X10_isCountHere f_X4_readHouseClause_94
          rw [pw, bv_s, s1, bv_s, if_pos rfl, if_pos rfl, if_pos rfl]
          exact wp_mono (h_count s2 g0 g70 hn X3 ns3 rfl pp (z3 c0) t63 tN3) (fun σ' h => gbX (gbX h))
  have no : ∀ x y : Int32, x ≠ y → vl = x → ¬ (kd = 1 ∧ vl = y) := fun x y h h1 q => h (h1.symm.trans q.2)
  by_cases k1 : kd = 1
  · by_cases v13 : vl = 13
    · have m := main 1 0 0 (Or.inl ⟨rfl, rfl, rfl, k1, v13⟩)
      rw [if_pos (show kd = 1 ∧ vl = 13 from ⟨k1, v13⟩), if_neg (no 13 0 (by decide) v13), if_neg (no 13 6 (by decide) v13), if_neg (no 13 14 (by decide) v13)]
      simp only [h10, if_false, bd_s]
      exact m
    · have n13 : ¬ (kd = 1 ∧ vl = 13) := fun q => v13 q.2
      by_cases v0 : vl = 0
      · have m := main 0 1 0 (Or.inr (Or.inl ⟨rfl, rfl, rfl, k1, v0⟩))
        rw [if_neg n13, if_pos (show kd = 1 ∧ vl = 0 from ⟨k1, v0⟩), if_neg (no 0 6 (by decide) v0), if_neg (no 0 14 (by decide) v0)]
        simp only [h10, if_false, if_true, bd_s]
        exact m
      · have n0 : ¬ (kd = 1 ∧ vl = 0) := fun q => v0 q.2
        by_cases v6 : vl = 6
        · have m := main 0 0 1 (Or.inr (Or.inr (Or.inl ⟨rfl, rfl, rfl, k1, v6⟩)))
          rw [if_neg n13, if_neg n0, if_pos (show kd = 1 ∧ vl = 6 from ⟨k1, v6⟩), if_neg (no 6 14 (by decide) v6)]
          simp only [h10, if_false, if_true, bd_s]
          exact m
        · have n6 : ¬ (kd = 1 ∧ vl = 6) := fun q => v6 q.2
          by_cases v14 : vl = 14
          · have m := main 0 0 0 (Or.inr (Or.inr (Or.inr ⟨rfl, rfl, rfl, k1, v14⟩)))
            rw [if_neg n13, if_neg n0, if_neg n6, if_pos (show kd = 1 ∧ vl = 14 from ⟨k1, v14⟩)]
            simp only [h10, if_false, if_true, bd_s]
            exact m
          · have n14 : ¬ (kd = 1 ∧ vl = 14) := fun q => v14 q.2
            rw [if_neg n13, if_neg n0, if_neg n6, if_neg n14]
            simp only [if_true, bd_s]
            rw [f0'.1, bv_s, wp_some, r_fails w0, bd_s, gb_0]
            exact Or.inl ⟨_, f0'.2, wp_some.mpr ⟨rfl, rd_is _ _ _ _⟩⟩
  · rw [if_neg (show ¬ (kd = 1 ∧ vl = 13) from fun q => k1 q.1), if_neg (show ¬ (kd = 1 ∧ vl = 0) from fun q => k1 q.1), if_neg (show ¬ (kd = 1 ∧ vl = 6) from fun q => k1 q.1), if_neg (show ¬ (kd = 1 ∧ vl = 14) from fun q => k1 q.1)]
    simp only [if_true, bd_s]
    rw [f0'.1, bv_s, wp_some, r_fails w0, bd_s, gb_0]
    exact Or.inl ⟨_, f0'.2, wp_some.mpr ⟨rfl, rd_is _ _ _ _⟩⟩
end
