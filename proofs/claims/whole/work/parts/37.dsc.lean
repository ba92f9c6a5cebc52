/-! the four clauses of a HOUSE -/
section
variable {b : Nat → Int32} {L p e q n N p0 : Nat} {σ ρ : mm_S} {kd vl : Int32}
theorem J_num1 (lo hi : Int32) (hlo : 0 ≤ lo) (c : CP b L σ p kd vl e) (f0 : σ.1 3 9 = 0) (hn : n ≤ 6) (h73 : σ.1 7 3 = Int32.ofNat n) (ns : NZ b L ρ q) (hs : sk b L q = p) :
    (∃ f σ', f_X4_readNumber 3 lo hi (-1) σ = some (0, σ') ∧ FH b L f σ' ∧ RFh (f_X10_numberHere 214 lo hi ρ) f) ∨
    (¬ (vl < lo ∨ hi < vl) ∧ ∃ ρ' σ' kd' vl' e', f_X10_numberHere 214 lo hi ρ = some (1, ρ') ∧ NZ b L ρ' e ∧ ρ'.1 214 10 = vl ∧ O4 ρ ρ' ∧ f_X4_readNumber 3 lo hi (-1) σ = some (vl, σ') ∧ CP b L σ' (sk b L e) kd' vl' e' ∧ p < sk b L e ∧ σ'.1 3 9 = 0 ∧ O3 σ σ') := by
  rcases J_num lo hi (-1) hlo c f0 hn h73 ns hs with h | ⟨cr, ρ', h1, h2, h3, h4, ⟨vb, -⟩ | ⟨-, σ', kd', vl', e', h5, h6, h7, h8, h9⟩⟩
  · exact Or.inl h
  · exfalso; apply cr; left; rw [vb]
    rw [Int32.le_iff_toInt_le, show (0 : Int32).toInt = 0 by decide] at hlo
    rw [Int32.lt_iff_toInt_lt, show (-1 : Int32).toInt = -1 by decide]; omega
  · exact Or.inr ⟨cr, ρ', σ', kd', vl', e', h1, h2, h3, h4, h5, h6, h7, h8, h9⟩
theorem h_house (c : CP b L σ p kd vl e) (f0 : σ.1 3 9 = 0) (s0 : σ.1 7 0 = 0) (hn : n ≤ 6) (X : HXr n σ ρ) (ns : NZ b L ρ q) (hs : sk b L q = p) (hp : p0 < p) (t6 : ρ.1 214 11 = 6) (tN : ρ.1 214 14 = Int32.ofNat N) :
    wp (bd (f_X4_readNumber 3 1 9 (-1) σ) fun r32 σ31 => lt (su_i σ31 7 1 r32) fun σ33 => bd (f_X4_readNumber 3 0 7 (-1) σ33) fun r37 σ36 => lt (su_i σ36 7 2 r37) fun σ38 => some σ38)
      (KOh b L N p0 (bd (f_X10_cellHere 214 1 1 9 ρ) fun r26 σ25 => if r26 = 0 then some ((0 : Int32), σ25) else bd (f_X10_cellHere 214 2 0 7 σ25) fun r30 σ29 => if r30 = 0 then some ((0 : Int32), σ29) else gd (0 : Int32) 90 <| lt (su_i σ29 220 (0 : Int32).toNatClampNeg (1 : Int32)) fun σ33 => some ((1 : Int32), σ33))) := by
  rcases J_num1 1 9 (by decide) c f0 hn X.1.2.2.2.1 ns hs with ⟨f, σ1, e1, F, rf⟩ | ⟨cr, ρ1, σ1, kd1, vl1, e1, h1, h2, h3, h4, h5, h6, h7, h8, h9⟩
  · rw [e1, bd_s, lt_eq, FH_num (FH_7 F (by omega)), bd_s, lt_eq, wp_some]
    refine Or.inl ⟨f, FH_7 (FH_7 F (by omega)) (by omega), ?_⟩
    obtain ⟨⟨r, s⟩, er, r0, r9⟩ := r_cell0 (c := 1) rf
    dsimp only at r0 r9
    rw [er, bd_s, if_pos r0]; exact wp_some.mpr ⟨rfl, r9⟩
  · rw [h5, bd_s, lt_eq]
    have c1 : f_X10_cellHere 214 1 1 9 ρ = some (1, su_i ρ1 220 1 (ρ1.1 214 10)) := r_cell1 (c := 1) (by omega) h1
    rw [c1, bd_s, if_neg (show ¬ ((1 : Int32) = 0) by decide), h3]
    have ns1 : NZ b L (su_i ρ1 220 1 vl) e := NZ_keep h2 (ag_i (by omega))
    have cp1 : CP b L (su_i σ1 7 1 vl) (sk b L e) kd1 vl1 e1 := CP_keep h6 (ag_i (by omega))
    have q73 : (su_i σ1 7 1 vl).1 7 3 = Int32.ofNat n := by rw [rd_ik _ _ _ _ _ _ (by omega), h9 _ _ (by omega)]; exact X.1.2.2.2.1
    rcases J_num1 0 7 (by decide) cp1 ((rd_ia _ _ _ _ _ _ (by omega)).trans h8) hn q73 ns1 rfl with ⟨f, σ2, e2, F, rf⟩ | ⟨cr2, ρ2, σ2, kd2, vl2, e2, g1, g2, g3, g4, g5, g6, g7, g8, g9⟩
    · rw [e2, bd_s, lt_eq, wp_some]
      refine Or.inl ⟨f, FH_7 F (by omega), ?_⟩
      obtain ⟨⟨r, s⟩, er, r0, r9⟩ := r_cell0 (c := 2) rf
      dsimp only at r0 r9
      rw [er, bd_s, if_pos r0]; exact wp_some.mpr ⟨rfl, r9⟩
    · have c2 : f_X10_cellHere 214 2 0 7 (su_i ρ1 220 1 vl) = some (1, su_i ρ2 220 2 (ρ2.1 214 10)) := r_cell1 (c := 2) (by omega) g1
      rw [g5, bd_s, lt_eq, wp_some, c2, bd_s, if_neg (show ¬ ((1 : Int32) = 0) by decide), g3, show gd (0 : Int32) 90 (lt (su_i (su_i ρ2 220 2 vl1) 220 (0 : Int32).toNatClampNeg (1 : Int32)) fun σ33 => some ((1 : Int32), σ33)) = some (1, su_i (su_i ρ2 220 2 vl1) 220 0 1) from gd_n (k := 0) (by omega) (by omega)]
      obtain ⟨t, -, ht, ev⟩ := rng (v := 0) (lo := 1) (hi := 9) (by omega) (by omega) cr
      obtain ⟨t2, -, ht2, ev2⟩ := rng (v := 0) (lo := 0) (hi := 7) (by omega) (by omega) cr2
      have σo : ∀ a k, a ≠ 3 → ¬ (a = 7 ∧ (k = 1 ∨ k = 2)) → (su_i σ2 7 2 vl1).1 a k = σ.1 a k := fun a k q1 q2 => by rw [rd_ii, if_neg (by omega), g9 _ _ q1, rd_ii, if_neg (by omega), h9 _ _ q1]
      have σ1' : (su_i σ2 7 2 vl1).1 7 1 = vl := by rw [rd_ik _ _ _ _ _ _ (by omega), g9 _ _ (by omega), rd_is]
      have ρo : ∀ a k, ¬ (a = 214 ∧ (k = 8 ∨ k = 10)) → ¬ (a = 220 ∧ k ≤ 2) → (su_i (su_i ρ2 220 2 vl1) 220 0 1).1 a k = ρ.1 a k := fun a k q1 q2 => by rw [rd_ii, if_neg (by omega), rd_ii, if_neg (by omega), g4 _ _ q1, rd_ii, if_neg (by omega), h4 _ _ q1]
      obtain ⟨⟨x1, x2, x3, x3', x4⟩, x5, x6, x7, x8, x9, x10, x11⟩ := X
      refine Or.inr ⟨_, n, e1, sk b L e1, kd2, vl2, e2, rfl, CP_keep g6 (ag_i (by omega)), (rd_ia _ _ _ _ _ _ (by omega)).trans g8, ?_, NZ_keep g2 (fun a k q => by rw [rd_ii, if_neg (by omega), rd_ii, if_neg (by omega)]), rfl, by omega, hn, ⟨⟨?_, ?_, ?_, ?_, ?_⟩, fun l hl => ?_, fun l hl => ?_, ⟨t, ht, σ1'.trans ev⟩, ⟨t2, ht2, (rd_is _ _ _ _).trans ev2⟩, fun l hl => ?_, fun l hl => ?_, fun l h1 hl => ?_⟩, rd_is _ _ _ _, ?_, ?_⟩
      · rw [σo _ _ (by omega) (by omega)]; exact s0
      · rw [σ1', rd_ik _ _ _ _ _ _ (by omega), rd_ik _ _ _ _ _ _ (by omega), g4 _ _ (by omega), rd_is]
      · rw [rd_is, rd_ik _ _ _ _ _ _ (by omega), rd_is]
      · rw [ρo _ _ (by omega) (by omega)]; exact x3
      · rw [σo _ _ (by omega) (by omega)]; exact x3'
      · rw [ρo _ _ (by omega) (by omega), σo _ _ (by omega) (by omega)]; exact x4
      · rw [ρo _ _ (by omega) (by omega), ρo _ _ (by omega) (by omega), σo _ _ (by omega) (by omega), σo _ _ (by omega) (by omega)]; exact x5 l hl
      · rw [ρo _ _ (by omega) (by omega), σo _ _ (by omega) (by omega)]; exact x6 l hl
      · rw [σo _ _ (by omega) (by omega)]; exact x9 l hl
      · rw [σo _ _ (by omega) (by omega)]; exact x10 l hl
      · rw [σo _ _ (by omega) (by omega)]; exact x11 l h1 hl
      · rw [ρo _ _ (by omega) (by omega)]; exact t6
      · rw [ρo _ _ (by omega) (by omega)]; exact tN
theorem h_lodger (c : CP b L σ p kd vl e) (f0 : σ.1 3 9 = 0) (s0 : σ.1 7 0 = 0) (hn : n < 6) (X : HXr n σ ρ) (ns : NZ b L ρ q) (hs : sk b L q = p) (hp : p0 < p) (z1 : ρ.1 220 0 = 1) (t6 : ρ.1 214 11 = 6) (tN : ρ.1 214 14 = Int32.ofNat N) :
    wp (bd (f_X4_readNumber 3 0 60 (-1) σ) fun r24 σ23 => bd (f_X4_readNumber 3 0 99 (-1) σ23) fun r27 σ26 => bv (f_X1_addLodger 7 r24 r27 σ26) fun σ29 => some σ29)
      (KOh b L N p0 (gd (3 : Int32) 90 <| bd (f_X10_cellHere 214 ((41 : Int32) + (ρ.1 220 (3 : Int32).toNatClampNeg)) 0 60 ρ) fun r30 σ29 => if r30 = 0 then some ((0 : Int32), σ29) else gd (3 : Int32) 90 <| bd (f_X10_cellHere 214 ((47 : Int32) + (σ29.1 220 (3 : Int32).toNatClampNeg)) 0 99 σ29) fun r35 σ34 => if r35 = 0 then some ((0 : Int32), σ34) else gd (3 : Int32) 90 <| gd (3 : Int32) 90 <| lt (su_i σ34 220 (3 : Int32).toNatClampNeg ((σ34.1 220 (3 : Int32).toNatClampNeg) + (1 : Int32))) fun σ39 => some ((1 : Int32), σ39))) := by
  have g3' : ∀ {α : Type} (y : Option α), gd (3 : Int32) 90 y = y := fun y => gd_n (k := 3) (by omega) (by omega)
  have i3 : (3 : Int32).toNatClampNeg = 3 := n_idx (k := 3) (by omega)
  simp only [g3', i3]
  obtain ⟨⟨x1, x2, x3, x3', x4⟩, x5, x6, x7, x8, x9, x10, x11⟩ := id X
  rw [x3, show (41 : Int32) + Int32.ofNat n = Int32.ofNat (41 + n) from n_add 41 n]
  rcases J_num1 0 60 (by decide) c f0 (show n ≤ 6 by omega) x3' ns hs with ⟨f, σ1, e1, F, rf⟩ | ⟨cr, ρ1, σ1, kd1, vl1, e1, h1, h2, h3, h4, h5, h6, h7, h8, h9⟩
  · obtain ⟨σ2, ea, F2⟩ := FH_add F 0 0
    rw [e1, bd_s, FH_num F, bd_s, ea, bv_s, wp_some]
    refine Or.inl ⟨f, F2, ?_⟩
    obtain ⟨⟨r, s⟩, er, r0, r9⟩ := r_cell0 (c := Int32.ofNat (41 + n)) rf
    dsimp only at r0 r9
    rw [er, bd_s, if_pos r0]; exact wp_some.mpr ⟨rfl, r9⟩
  · rw [h5, bd_s, r_cell1 (c := 41 + n) (by omega) h1, bd_s, if_neg (show ¬ ((1 : Int32) = 0) by decide), h3, rd_ik _ _ _ _ _ _ (show 3 ≠ 41 + n by omega), h4 220 3 (by omega), x3, show (47 : Int32) + Int32.ofNat n = Int32.ofNat (47 + n) from n_add 47 n]
    have ns1 : NZ b L (su_i ρ1 220 (41 + n) vl) e := NZ_keep h2 (ag_i (by omega))
    rcases J_num1 0 99 (by decide) h6 h8 (show n ≤ 6 by omega) ((h9 _ _ (by omega)).trans x3') ns1 rfl with ⟨f, σ2, e2, F, rf⟩ | ⟨cr2, ρ2, σ2, kd2, vl2, e2, g1, g2, g3, g4, g5, g6, g7, g8, g9⟩
    · obtain ⟨σ3, ea, F2⟩ := FH_add F vl 0
      rw [e2, bd_s, ea, bv_s, wp_some]
      refine Or.inl ⟨f, F2, ?_⟩
      obtain ⟨⟨r, s⟩, er, r0, r9⟩ := r_cell0 (c := Int32.ofNat (47 + n)) rf
      dsimp only at r0 r9
      rw [er, bd_s, if_pos r0]; exact wp_some.mpr ⟨rfl, r9⟩
    · have σ2o : ∀ a k, a ≠ 3 → σ2.1 a k = σ.1 a k := fun a k q => by rw [g9 _ _ q, h9 _ _ q]
      have s73 : σ2.1 7 3 = Int32.ofNat n := (σ2o _ _ (by omega)).trans x3'
      have eadd : f_X1_addLodger 7 vl vl1 σ2 = some (su_i (su_i (su_i σ2 8 n vl) 9 n vl1) 7 3 (Int32.ofNat (n + 1))) := by
        unfold f_X1_addLodger
        rw [s73, show (6 : Int32) = Int32.ofNat 6 from rfl, if_neg (by rw [n_le (by omega) (by omega)]; omega), gd_n (by omega) (by omega), n_idx (by omega), lt_eq, rd_ia _ _ _ _ _ _ (by omega), s73, gd_n (by omega) (by omega), n_idx (by omega), lt_eq, rd_ia _ _ _ _ _ _ (by omega), rd_ia _ _ _ _ _ _ (by omega), s73, lt_eq, show Int32.ofNat n + 1 = Int32.ofNat (n + 1) from n_add n 1]
      rw [g5, bd_s, eadd, bv_s, wp_some, r_cell1 (c := 47 + n) (by omega) g1, bd_s, if_neg (show ¬ ((1 : Int32) = 0) by decide), g3, lt_eq, rd_ik _ _ _ _ _ _ (show 3 ≠ 47 + n by omega), g4 220 3 (by omega), rd_ik _ _ _ _ _ _ (show 3 ≠ 41 + n by omega), h4 220 3 (by omega), x3, show Int32.ofNat n + 1 = Int32.ofNat (n + 1) from n_add n 1]
      obtain ⟨t, -, ht, ev⟩ := rng (v := 0) (lo := 0) (hi := 60) (by omega) (by omega) cr
      obtain ⟨t2, -, ht2, ev2⟩ := rng (v := 0) (lo := 0) (hi := 99) (by omega) (by omega) cr2
      have σo : ∀ a k, a ≠ 3 → ¬ (a = 7 ∧ k = 3) → ¬ (a = 8 ∧ k = n) → ¬ (a = 9 ∧ k = n) → (su_i (su_i (su_i σ2 8 n vl) 9 n vl1) 7 3 (Int32.ofNat (n + 1))).1 a k = σ.1 a k := fun a k q1 q2 q3 q4 => by rw [rd_ii, if_neg q2, rd_ii, if_neg q4, rd_ii, if_neg q3, σ2o _ _ q1]
      have σ8 : (su_i (su_i (su_i σ2 8 n vl) 9 n vl1) 7 3 (Int32.ofNat (n + 1))).1 8 n = vl := by rw [rd_ia _ _ _ _ _ _ (by omega), rd_ia _ _ _ _ _ _ (by omega), rd_is]
      have σ9 : (su_i (su_i (su_i σ2 8 n vl) 9 n vl1) 7 3 (Int32.ofNat (n + 1))).1 9 n = vl1 := by rw [rd_ia _ _ _ _ _ _ (by omega), rd_is]
      have ρo : ∀ a k, ¬ (a = 214 ∧ (k = 8 ∨ k = 10)) → ¬ (a = 220 ∧ (k = 3 ∨ k = 41 + n ∨ k = 47 + n)) → (su_i (su_i ρ2 220 (47 + n) vl1) 220 3 (Int32.ofNat (n + 1))).1 a k = ρ.1 a k := fun a k q1 q2 => by rw [rd_ii, if_neg (by omega), rd_ii, if_neg (by omega), g4 _ _ q1, rd_ii, if_neg (by omega), h4 _ _ q1]
      have ρ41 : (su_i (su_i ρ2 220 (47 + n) vl1) 220 3 (Int32.ofNat (n + 1))).1 220 (41 + n) = vl := by rw [rd_ik _ _ _ _ _ _ (by omega), rd_ik _ _ _ _ _ _ (by omega), g4 _ _ (by omega), rd_is]
      have ρ47 : (su_i (su_i ρ2 220 (47 + n) vl1) 220 3 (Int32.ofNat (n + 1))).1 220 (47 + n) = vl1 := by rw [rd_ik _ _ _ _ _ _ (by omega), rd_is]
      refine Or.inr ⟨_, n + 1, e1, sk b L e1, kd2, vl2, e2, rfl, CP_keep g6 (fun a k q => by rw [rd_ii, if_neg (by omega), rd_ii, if_neg (by omega), rd_ii, if_neg (by omega)]), ?_, ?_, NZ_keep g2 (fun a k q => by rw [rd_ii, if_neg (by omega), rd_ii, if_neg (by omega)]), rfl, by omega, by omega, ⟨⟨?_, ?_, rd_is _ _ _ _, rd_is _ _ _ _, ?_⟩, fun l hl => ?_, fun l hl => ?_, ?_, ?_, fun l hl => ?_, fun l hl => ?_, fun l h1 hl => ?_⟩, ?_, ?_, ?_⟩
      · rw [rd_ia _ _ _ _ _ _ (by omega), rd_ia _ _ _ _ _ _ (by omega), rd_ia _ _ _ _ _ _ (by omega)]; exact g8
      · rw [σo _ _ (by omega) (by omega) (by omega) (by omega)]; exact s0
      · rw [ρo _ _ (by omega) (by omega), σo _ _ (by omega) (by omega) (by omega) (by omega)]; exact x1
      · rw [ρo _ _ (by omega) (by omega), σo _ _ (by omega) (by omega) (by omega) (by omega)]; exact x2
      · rw [ρo _ _ (by omega) (by omega), σo _ _ (by omega) (by omega) (by omega) (by omega)]; exact x4
      · by_cases cl : l = n
        · subst cl; rw [ρ41, ρ47, σ8, σ9]; exact ⟨rfl, rfl⟩
        · rw [ρo _ _ (by omega) (by omega), ρo _ _ (by omega) (by omega), σo _ _ (by omega) (by omega) (by omega) (by omega), σo _ _ (by omega) (by omega) (by omega) (by omega)]; exact x5 l hl
      · rw [ρo _ _ (by omega) (by omega), σo _ _ (by omega) (by omega) (by omega) (by omega)]; exact x6 l hl
      · rw [σo _ _ (by omega) (by omega) (by omega) (by omega)]; exact x7
      · rw [σo _ _ (by omega) (by omega) (by omega) (by omega)]; exact x8
      · by_cases cl : l = n
        · subst cl; rw [σ8]; exact ⟨t, by omega, ev⟩
        · rw [σo _ _ (by omega) (by omega) (by omega) (by omega)]; exact x9 l hl
      · by_cases cl : l = n
        · subst cl; rw [σ9]; exact ⟨t2, by omega, ev2⟩
        · rw [σo _ _ (by omega) (by omega) (by omega) (by omega)]; exact x10 l hl
      · rw [σo _ _ (by omega) (by omega) (by omega) (by omega)]; exact x11 l (by omega) hl
      · rw [ρo _ _ (by omega) (by omega)]; exact z1
      · rw [ρo _ _ (by omega) (by omega)]; exact t6
      · rw [ρo _ _ (by omega) (by omega)]; exact tN
theorem h_count (c : CP b L σ p kd vl e) (f0 : σ.1 3 9 = 0) (s0 : σ.1 7 0 = 0) (hn : n ≤ 6) (X : HXr n σ ρ) (ns : NZ b L ρ q) (hs : sk b L q = p) (hp : p0 < p) (z1 : ρ.1 220 0 = 1) (t6 : ρ.1 214 11 = 6) (tN : ρ.1 214 14 = Int32.ofNat N) :
    wp (bd (f_X4_readNumber 3 0 11 (-1) σ) fun r8 σ7 => lt (su_i σ7 7 4 ((σ.1 7 4) ||| ((1 : Int32) <<< (r8 &&& 31)))) fun σ9 => some σ9)
      (KOh b L N p0 (bd (f_X10_numberHere 214 0 11 ρ) fun r15 σ14 => if r15 = 0 then some ((0 : Int32), σ14) else gd (89 : Int32) 90 <| gd (89 : Int32) 90 <| lt (su_i σ14 220 (89 : Int32).toNatClampNeg ((σ14.1 220 (89 : Int32).toNatClampNeg) ||| ((1 : Int32) <<< ((σ14.1 214 10) &&& 31)))) fun σ19 => some ((1 : Int32), σ19))) := by
  have g3' : ∀ {α : Type} (y : Option α), gd (89 : Int32) 90 y = y := fun y => gd_n (k := 89) (by omega) (by omega)
  have i3 : (89 : Int32).toNatClampNeg = 89 := n_idx (k := 89) (by omega)
  simp only [g3', i3]
  obtain ⟨⟨x1, x2, x3, x3', x4⟩, x5, x6, x7, x8, x9, x10, x11⟩ := id X
  rcases J_num1 0 11 (by decide) c f0 hn x3' ns hs with ⟨f, σ1, e1, F, rf⟩ | ⟨cr, ρ1, σ1, kd1, vl1, e1, h1, h2, h3, h4, h5, h6, h7, h8, h9⟩
  · rw [e1, bd_s, lt_eq, wp_some]
    refine Or.inl ⟨f, FH_7 F (by omega), ?_⟩
    obtain ⟨⟨r, s⟩, er, r0, r9⟩ := rf
    dsimp only at r0 r9
    rw [er, bd_s, if_pos r0]; exact wp_some.mpr ⟨rfl, r9⟩
  · rw [h5, bd_s, lt_eq, wp_some, h1, bd_s, if_neg (show ¬ ((1 : Int32) = 0) by decide), lt_eq, h3, h4 220 89 (by omega), x4]
    generalize (σ.1 7 4) ||| ((1 : Int32) <<< (vl &&& 31)) = y
    refine Or.inr ⟨_, n, e, sk b L e, kd1, vl1, e1, rfl, CP_keep h6 (ag_i (by omega)), (rd_ia _ _ _ _ _ _ (by omega)).trans h8, ?_, NZ_keep h2 (ag_i (by omega)), rfl, by omega, hn, ⟨⟨?_, ?_, ?_, ?_, ?_⟩, fun l hl => ?_, fun l hl => ?_, ?_, ?_, fun l hl => ?_, fun l hl => ?_, fun l h1 hl => ?_⟩, ?_, ?_, ?_⟩
    · rw [rd_ik _ _ _ _ _ _ (by omega), h9 _ _ (by omega)]; exact s0
    · rw [rd_ik _ _ _ _ _ _ (by omega), h4 _ _ (by omega), rd_ik _ _ _ _ _ _ (by omega), h9 _ _ (by omega)]; exact x1
    · rw [rd_ik _ _ _ _ _ _ (by omega), h4 _ _ (by omega), rd_ik _ _ _ _ _ _ (by omega), h9 _ _ (by omega)]; exact x2
    · rw [rd_ik _ _ _ _ _ _ (by omega), h4 _ _ (by omega)]; exact x3
    · rw [rd_ik _ _ _ _ _ _ (by omega), h9 _ _ (by omega)]; exact x3'
    · rw [rd_is, rd_is]
    · refine ⟨?_, ?_⟩
      · rw [rd_ik _ _ _ _ _ _ (by omega), h4 _ _ (by omega), rd_ia _ _ _ _ _ _ (by omega), h9 _ _ (by omega)]; exact (x5 l hl).1
      · rw [rd_ik _ _ _ _ _ _ (by omega), h4 _ _ (by omega), rd_ia _ _ _ _ _ _ (by omega), h9 _ _ (by omega)]; exact (x5 l hl).2
    · rw [rd_ik _ _ _ _ _ _ (by omega), h4 _ _ (by omega), rd_ia _ _ _ _ _ _ (by omega), h9 _ _ (by omega)]; exact x6 l hl
    · rw [rd_ik _ _ _ _ _ _ (by omega), h9 _ _ (by omega)]; exact x7
    · rw [rd_ik _ _ _ _ _ _ (by omega), h9 _ _ (by omega)]; exact x8
    · rw [rd_ia _ _ _ _ _ _ (by omega), h9 _ _ (by omega)]; exact x9 l hl
    · rw [rd_ia _ _ _ _ _ _ (by omega), h9 _ _ (by omega)]; exact x10 l hl
    · rw [rd_ia _ _ _ _ _ _ (by omega), h9 _ _ (by omega)]; exact x11 l h1 hl
    · rw [rd_ik _ _ _ _ _ _ (by omega), h4 _ _ (by omega)]; exact z1
    · rw [rd_ia _ _ _ _ _ _ (by omega), h4 _ _ (by omega)]; exact t6
    · rw [rd_ia _ _ _ _ _ _ (by omega), h4 _ _ (by omega)]; exact tN
end
