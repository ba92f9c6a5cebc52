/-! a piece, all pieces, the piece that is read now -/
def TK (b : Nat → Int32) (L p : Nat) (kd vl : Int32) (e : Nat) : Prop :=
  (p = L ∧ kd = 0 ∧ vl = -1 ∧ e = L) ∨
  (p < L ∧ isl (b p) = true ∧ kd = 1 ∧ e = ed isl b L p ∧ WV b p e vl) ∨
  (p < L ∧ isd (b p) = true ∧ kd = 2 ∧ e = ed isd b L p ∧ vl = nw b p e) ∨
  (p < L ∧ isl (b p) = false ∧ isd (b p) = false ∧ b p ≠ 32 ∧ kd = 3 ∧ e = se b L p ∧ vl = sg (b p) (e - p))
theorem TK_e {b : Nat → Int32} {L p e : Nat} {kd vl : Int32} (h : TK b L p kd vl e) : p ≤ L ∧ e ≤ L ∧ p ≤ e ∧ (p < L → p < e) := by
  rcases h with ⟨h1, -, -, h2⟩ | ⟨h1, h2, -, h3, -⟩ | ⟨h1, h2, -, h3, -⟩ | ⟨h1, -, -, -, -, h3, -⟩
  · omega
  · have := ed_lt isl b (L := L) (i := p) (by omega)
    have := ed_le isl b L (p + 1)
    rw [ed_go h1 h2] at h3
    rw [ed_go h1 h2] at *
    omega
  · have := ed_lt isd b (L := L) (i := p) (by omega)
    have := ed_le isd b L (p + 1)
    rw [ed_go h1 h2] at h3
    rw [ed_go h1 h2] at *
    omega
  · unfold se at h3
    split at h3 <;> omega
theorem isb_l {x : Int32} (h : isl x = true) : ¬ isb x = true := by
  intro q; have := of_decide_eq_true q; rw [this] at h; exact absurd h (by decide)
theorem isb_d {x : Int32} (h : isd x = true) : ¬ isb x = true := by
  intro q; have := of_decide_eq_true q; rw [this] at h; exact absurd h (by decide)
theorem TK_sk {b : Nat → Int32} {L p e : Nat} {kd vl : Int32} (h : TK b L p kd vl e) : sk b L p = p := by
  apply ed_no
  rintro ⟨q1, q2⟩
  rcases h with ⟨h1, -, -, h2⟩ | ⟨h1, h2, -, h3, -⟩ | ⟨h1, h2, -, h3, -⟩ | ⟨h1, -, -, h2, -, h3, -⟩
  · omega
  · exact isb_l h2 q2
  · exact isb_d h2 q2
  · exact h2 (of_decide_eq_true q2)
def CU (b : Nat → Int32) (L : Nat) (σ : mm_S) (N : Nat) : Prop := CB b L σ ∧ 1 ≤ N ∧ N ≤ 401 ∧ σ.1 3 4 = Int32.ofNat N ∧
  ∀ i, i < N → ∃ p e, σ.1 6 i = Int32.ofNat p ∧ TK b L p (σ.1 4 i) (σ.1 5 i) e ∧ (i = 0 → p = sk b L 0) ∧ (i + 1 < N → p < L ∧ σ.1 6 (i + 1) = Int32.ofNat (sk b L e)) ∧ (i + 1 = N → p = L)
def CM (b : Nat → Int32) (L : Nat) (σ : mm_S) (M at' : Nat) : Prop := CB b L σ ∧ M ≤ at' ∧ at' ≤ L ∧ σ.1 3 4 = Int32.ofNat M ∧ (M = 0 → sk b L 0 = sk b L at') ∧
  ∀ i, i < M → ∃ p e, σ.1 6 i = Int32.ofNat p ∧ p < L ∧ TK b L p (σ.1 4 i) (σ.1 5 i) e ∧ (i = 0 → p = sk b L 0) ∧ (i + 1 < M → σ.1 6 (i + 1) = Int32.ofNat (sk b L e)) ∧ (i + 1 = M → sk b L e = sk b L at')
def ap (σ : mm_S) (M : Nat) (kd vl pl : Int32) : mm_S := su_i (su_i (su_i (su_i σ 4 M kd) 5 M vl) 6 M pl) 3 4 (Int32.ofNat (M + 1))
theorem x_addPiece {σ : mm_S} {M : Nat} {kd vl pl : Int32} (h : σ.1 3 4 = Int32.ofNat M) (hM : M ≤ 400) : f_X4_addPiece 3 kd vl pl σ = some (ap σ M kd vl pl) := by
  unfold f_X4_addPiece ap
  rw [show (400 : Int32) = Int32.ofNat 400 from rfl, h]
  simp (disch := omega) only [n_lt]
  rw [if_neg (by omega), gd_n (by omega) (by omega), n_idx (by omega), lt_eq, rd_ia _ _ _ _ _ _ (by omega), h, gd_n (by omega) (by omega), n_idx (by omega), lt_eq, rd_ia _ _ _ _ _ _ (by omega), rd_ia _ _ _ _ _ _ (by omega), h, gd_n (by omega) (by omega), n_idx (by omega), lt_eq,
    rd_ia _ _ _ _ _ _ (by omega), rd_ia _ _ _ _ _ _ (by omega), rd_ia _ _ _ _ _ _ (by omega), h, lt_eq, show Int32.ofNat M + 1 = Int32.ofNat (M + 1) from n_add M 1]
section
variable (σ : mm_S) (M : Nat) (kd vl pl : Int32)
theorem ap_4s : (ap σ M kd vl pl).1 4 M = kd := by unfold ap; rw [rd_ia _ _ _ _ _ _ (by omega), rd_ia _ _ _ _ _ _ (by omega), rd_ia _ _ _ _ _ _ (by omega), rd_is]
theorem ap_5s : (ap σ M kd vl pl).1 5 M = vl := by unfold ap; rw [rd_ia _ _ _ _ _ _ (by omega), rd_ia _ _ _ _ _ _ (by omega), rd_is]
theorem ap_6s : (ap σ M kd vl pl).1 6 M = pl := by unfold ap; rw [rd_ia _ _ _ _ _ _ (by omega), rd_is]
theorem ap_m : (ap σ M kd vl pl).1 3 4 = Int32.ofNat (M + 1) := by unfold ap; rw [rd_is]
theorem ap_o {a k : Nat} (h : ¬ (a = 3 ∧ k = 4)) (h' : k = M → a ≠ 4 ∧ a ≠ 5 ∧ a ≠ 6) : (ap σ M kd vl pl).1 a k = σ.1 a k := by
  unfold ap
  rw [rd_ii, if_neg h, rd_ii, if_neg (by omega), rd_ii, if_neg (by omega), rd_ii, if_neg (by omega)]
end
theorem CB_ap {b : Nat → Int32} {L M : Nat} {σ : mm_S} {kd vl pl : Int32} (h : CB b L σ) : CB b L (ap σ M kd vl pl) := ⟨h.1, (ap_o _ _ _ _ _ (by omega) (by omega)).trans h.2.1, fun k => (ap_o _ _ _ _ _ (by omega) (by omega)).trans (h.2.2 k)⟩
theorem CM_ap {b : Nat → Int32} {L M p e : Nat} {σ : mm_S} {kd vl : Int32} (h : CM b L σ M p) (hp : p < L) (t : TK b L p kd vl e) : CM b L (ap σ M kd vl (Int32.ofNat p)) (M + 1) e := by
  obtain ⟨h1, h2, h3, h4, h5, h6⟩ := h
  have te := TK_e t
  have ts := TK_sk t
  refine ⟨CB_ap h1, by have := te.2.2.2 hp; omega, te.2.1, ap_m _ _ _ _ _, fun q => by omega, fun i hi => ?_⟩
  by_cases c : i = M
  · subst c
    refine ⟨p, e, ap_6s _ _ _ _ _, hp, ?_, fun q => ?_, fun q => by omega, fun _ => rfl⟩
    · rw [ap_4s, ap_5s]; exact t
    · rw [h5 q, ts]
  · obtain ⟨p', e', q1, q2, q3, q4, q5, q6⟩ := h6 i (by omega)
    refine ⟨p', e', ?_, q2, ?_, q4, fun q => ?_, fun q => by omega⟩
    · rw [ap_o _ _ _ _ _ (by omega) (by omega)]; exact q1
    · rw [ap_o _ _ _ _ _ (by omega) (by omega), ap_o _ _ _ _ _ (by omega) (by omega)]; exact q3
    · by_cases c2 : i + 1 = M
      · rw [c2, ap_6s, q6 c2, ts]
      · rw [ap_o _ _ _ _ _ (by omega) (by omega)]; exact q5 (by omega)
theorem sk_L (b : Nat → Int32) (L : Nat) : sk b L L = L := ed_no (by omega)
theorem CM_end {b : Nat → Int32} {L M : Nat} {σ : mm_S} (h : CM b L σ M L) : CU b L (ap σ M 0 (-1) (Int32.ofNat L)) (M + 1) := by
  obtain ⟨h1, h2, h3, h4, h5, h6⟩ := h
  have hL := h1.1
  refine ⟨CB_ap h1, by omega, by omega, ap_m _ _ _ _ _, fun i hi => ?_⟩
  by_cases c : i = M
  · subst c
    refine ⟨L, L, ap_6s _ _ _ _ _, Or.inl ⟨rfl, ap_4s _ _ _ _ _, ap_5s _ _ _ _ _, rfl⟩, fun q => ?_, fun q => by omega, fun _ => rfl⟩
    rw [h5 q, sk_L]
  · obtain ⟨p', e', q1, q2, q3, q4, q5, q6⟩ := h6 i (by omega)
    refine ⟨p', e', ?_, ?_, q4, fun q => ⟨q2, ?_⟩, fun q => by omega⟩
    · rw [ap_o _ _ _ _ _ (by omega) (by omega)]; exact q1
    · rw [ap_o _ _ _ _ _ (by omega) (by omega), ap_o _ _ _ _ _ (by omega) (by omega)]; exact q3
    · by_cases c2 : i + 1 = M
      · rw [c2, ap_6s, q6 c2, sk_L]
      · rw [ap_o _ _ _ _ _ (by omega) (by omega)]; exact q5 (by omega)
theorem x_cut {b : Nat → Int32} {L : Nat} {σ : mm_S} (T : CB b L σ) : wp (f_X4_cut 3 σ) (fun τ => ∃ N, CU b L τ N) := by
  have hL := T.1
  unfold f_X4_cut f_X4_cut_9
  rw [lt_eq]
  refine wp_lp (fun m v τ => ∃ M at' k, CM b L τ M at' ∧ k ≤ at' ∧ m = L - at' ∧ v = (Int32.ofNat at', Int32.ofNat k)) ?_ lpN L _ _ (Nat.lt_of_le_of_lt hL (by decide)) ⟨0, 0, 0, ⟨⟨hL, (rd_ia _ _ _ _ _ _ (by omega)).trans T.2.1, fun k => (rd_ia _ _ _ _ _ _ (by omega)).trans (T.2.2 k)⟩, by omega, by omega, rd_is _ _ _ _, fun _ => rfl, fun i q => by omega⟩, by omega, rfl, rfl⟩
  rintro m rec v τ ⟨M, at', k, C, hk, rfl, rfl⟩ hrec
  have C0 := C
  obtain ⟨c1, c2, c3, c4, c5, c6⟩ := C0
  have fin : at' = L → wp (f_X4_cut_138 3 τ) (fun τ => ∃ N, CU b L τ N) := by
    intro e; subst e
    unfold f_X4_cut_138
    rw [c1.2.1, x_addPiece c4 (by omega), bv_s, wp_some]
    exact ⟨_, CM_end C⟩
  rw [c1.2.1, show (400 : Int32) = Int32.ofNat 400 from rfl, show Int32.ofNat at' + 1 = Int32.ofNat (at' + 1) from n_add at' 1]
  simp (disch := omega) only [n_le]
  by_cases ck : 400 ≤ k
  · rw [if_pos ck]; exact fin (by omega)
  · rw [if_neg ck]
    by_cases ca : L ≤ at'
    · rw [if_pos ca]; exact fin (by omega)
    · rw [if_neg ca, lt_eq, x_isLetter c1 (by omega), bd_s]
      have go : ∀ (kd vl : Int32) (e : Nat), TK b L at' kd vl e → wp (bv (f_X4_addPiece 3 kd vl (Int32.ofNat at') τ) fun σ' => lt (Int32.ofNat k + Int32.ofInt 1) fun x => rec (Int32.ofNat e, x) σ') (fun τ => ∃ N, CU b L τ N) := by
        intro kd vl e t
        have te := (TK_e t).2.2.2 (by omega)
        rw [x_addPiece c4 (by omega), bv_s, lt_eq, n_addI]
        exact hrec (L - e) _ _ (by omega) ⟨M + 1, e, k + 1, CM_ap C (by omega) t, by omega, rfl, rfl⟩
      by_cases cl : isl (b at') = true
      · rw [if_pos cl, if_neg (by decide), x_wordEnd c1 (by omega) cl, bd_s]
        have e1 := ed_le isl b L (at' + 1)
        have e2 := ed_lt isl b (L := L) (i := at') (by omega)
        rw [← ed_go (by omega) cl] at e1
        obtain ⟨⟨w, s⟩, ew, hw, hs⟩ := x_wordOf (p := at') (e := ed isl b L at') c1 (by omega) e2
        dsimp only at hw hs
        subst hs
        rw [ew, bd_s]
        exact go 1 w _ (Or.inr (Or.inl ⟨by omega, cl, rfl, rfl, hw⟩))
      · rw [if_neg cl, if_pos rfl, x_isDigit c1 (by omega), bd_s]
        by_cases cd : isd (b at') = true
        · rw [if_pos cd, if_neg (by decide), x_numberEnd c1 (by omega) cd, bd_s]
          have e1 := ed_le isd b L at'
          have e2 := ed_lt isd b (L := L) (i := at') (by omega)
          rw [x_numberOf c1 e1 e2 (fun i h1 h2 => (ed_in isd b h1 h2).2), bd_s]
          exact go 2 _ _ (Or.inr (Or.inr (Or.inl ⟨by omega, cd, rfl, rfl, rfl⟩)))
        · rw [if_neg cd, if_pos rfl, gd_n (by omega) (by omega), n_idx (by omega), c1.2.2]
          by_cases cb : b at' = 32
          · rw [if_pos cb, lt_eq, n_addI]
            have es : sk b L at' = sk b L (at' + 1) := ed_go (by omega) (decide_eq_true cb)
            refine hrec (L - (at' + 1)) _ _ (by omega) ⟨M, at' + 1, k + 1, ⟨c1, by omega, by omega, c4, fun q => (c5 q).trans es, fun i hi => ?_⟩, by omega, rfl, rfl⟩
            obtain ⟨p', e', q1, q2, q3, q4, q5, q6⟩ := c6 i hi
            exact ⟨p', e', q1, q2, q3, q4, q5, fun q => (q6 q).trans es⟩
          · have sle : at' + 1 ≤ se b L at' ∧ se b L at' ≤ at' + 2 := by unfold se; split <;> omega
            rw [if_neg cb, x_signEnd c1 (by omega), bd_s, gd_n (by omega) (by omega), n_sub (by omega), c1.2.2, x_signOf (by omega), bd_s]
            exact go 3 _ _ (Or.inr (Or.inr (Or.inr ⟨by omega, by simpa using cl, by simpa using cd, cb, rfl, rfl, rfl⟩)))
/-- the piece that is read now -/
def CP (b : Nat → Int32) (L : Nat) (σ : mm_S) (p : Nat) (kd vl : Int32) (e : Nat) : Prop :=
  ∃ N i, CU b L σ N ∧ i < N ∧ σ.1 3 5 = Int32.ofNat i ∧ σ.1 3 6 = kd ∧ σ.1 3 7 = vl ∧ σ.1 3 8 = Int32.ofNat p ∧ TK b L p kd vl e ∧ (p < L → i + 1 < N ∧ σ.1 6 (i + 1) = Int32.ofNat (sk b L e)) ∧ (p = L → i + 1 = N)
theorem CU_keep {b : Nat → Int32} {L N : Nat} {σ τ : mm_S} (h : CU b L σ N) (g : ag (fun a k => a = 1 ∨ a = 2 ∨ a = 4 ∨ a = 5 ∨ a = 6 ∨ (a = 3 ∧ k = 4)) σ τ) : CU b L τ N := by
  obtain ⟨⟨h1, h2, h3⟩, h4, h5, h6, h7⟩ := h
  refine ⟨⟨h1, (g _ _ (by omega)).trans h2, fun k => (g _ _ (by omega)).trans (h3 k)⟩, h4, h5, (g _ _ (by omega)).trans h6, fun i hi => ?_⟩
  rw [g 6 i (by omega), g 4 i (by omega), g 5 i (by omega), g 6 (i + 1) (by omega)]
  exact h7 i hi
theorem CP_keep {b : Nat → Int32} {L p e : Nat} {kd vl : Int32} {σ τ : mm_S} (h : CP b L σ p kd vl e) (g : ag (fun a k => a = 1 ∨ a = 2 ∨ a = 4 ∨ a = 5 ∨ a = 6 ∨ (a = 3 ∧ 4 ≤ k ∧ k ≤ 8)) σ τ) : CP b L τ p kd vl e := by
  obtain ⟨N, i, h1, h2, h3, h4, h5, h6, h7, h8, h9⟩ := h
  refine ⟨N, i, CU_keep h1 (ag_mono g (by intro c k; omega)), h2, (g _ _ (by omega)).trans h3, (g _ _ (by omega)).trans h4, (g _ _ (by omega)).trans h5, (g _ _ (by omega)).trans h6, h7, fun q => ?_, h9⟩
  rw [g 6 (i + 1) (by omega)]; exact h8 q
/-- to piece i -/
def st (σ : mm_S) (i : Nat) : mm_S := su_i (su_i (su_i (su_i σ 3 5 (Int32.ofNat i)) 3 6 (σ.1 4 i)) 3 7 (σ.1 5 i)) 3 8 (σ.1 6 i)
theorem st_o (σ : mm_S) (i : Nat) {a k : Nat} (h : ¬ (a = 3 ∧ 5 ≤ k ∧ k ≤ 8)) : (st σ i).1 a k = σ.1 a k := by
  unfold st; rw [rd_ii, if_neg (by omega), rd_ii, if_neg (by omega), rd_ii, if_neg (by omega), rd_ii, if_neg (by omega)]
theorem st_CP {b : Nat → Int32} {L N i : Nat} {σ : mm_S} (h : CU b L σ N) (hi : i < N) {p : Nat} (hp : p ≤ L) (ep : σ.1 6 i = Int32.ofNat p) : ∃ kd vl e, CP b L (st σ i) p kd vl e := by
  have C := h
  obtain ⟨⟨h1, h2, h3⟩, h4, h5, h6, h7⟩ := h
  obtain ⟨p', e, q1, q2, -, q4, q5⟩ := h7 i hi
  have te := TK_e q2
  have : p = p' := by rw [ep, n_eq (by omega) (by omega)] at q1; exact q1
  subst this
  refine ⟨σ.1 4 i, σ.1 5 i, e, N, i, CU_keep C (fun a k q => st_o _ _ (by omega)), hi, ?_, ?_, ?_, ?_, q2, fun q => ?_, fun q => ?_⟩
  · unfold st; rw [rd_ik _ _ _ _ _ _ (by omega), rd_ik _ _ _ _ _ _ (by omega), rd_ik _ _ _ _ _ _ (by omega), rd_is]
  · unfold st; rw [rd_ik _ _ _ _ _ _ (by omega), rd_ik _ _ _ _ _ _ (by omega), rd_is]
  · unfold st; rw [rd_ik _ _ _ _ _ _ (by omega), rd_is]
  · unfold st; rw [rd_is]; exact q1
  · have : i + 1 < N := by
      rcases Nat.lt_or_ge (i + 1) N with c | c
      · exact c
      · have := q5 (by omega); omega
    rw [st_o _ _ (by omega)]; exact ⟨this, (q4 this).2⟩
  · rcases Nat.lt_or_ge (i + 1) N with c | c
    · have := (q4 c).1; omega
    · omega
theorem x_step0 {N i : Nat} {σ : mm_S} (e4 : σ.1 3 4 = Int32.ofNat N) (e5 : σ.1 3 5 + 1 = Int32.ofNat i) (hi : i < N) (hN : N ≤ 401) : f_X4_step 3 σ = some (st σ i) := by
  unfold f_X4_step st
  rw [e4, e5]
  simp (disch := omega) only [n_le]
  rw [if_neg (by omega), lt_eq, rd_is, gd_n (by omega) (by omega), n_idx (by omega), lt_eq, rd_ik _ _ _ _ _ _ (by omega), rd_is, gd_n (by omega) (by omega), n_idx (by omega), lt_eq, rd_ik _ _ _ _ _ _ (by omega), rd_ik _ _ _ _ _ _ (by omega), rd_is, gd_n (by omega) (by omega), n_idx (by omega), lt_eq]
  rw [rd_ia σ 4 i 3 5 _ (by omega), rd_ia _ 5 i 3 6 _ (by omega), rd_ia σ 5 i 3 5 _ (by omega), rd_ia _ 6 i 3 7 _ (by omega), rd_ia _ 6 i 3 6 _ (by omega), rd_ia σ 6 i 3 5 _ (by omega)]
theorem x_stepE {b : Nat → Int32} {L p e : Nat} {kd vl : Int32} {σ : mm_S} (h : CP b L σ p kd vl e) (hp : p = L) : f_X4_step 3 σ = some σ := by
  obtain ⟨N, i, ⟨-, c1, c2, c3, -⟩, h2, h3, h4, h5, h6, h7, h8, h9⟩ := h
  unfold f_X4_step
  rw [c3, h3, show Int32.ofNat i + 1 = Int32.ofNat (i + 1) from n_add i 1]
  simp (disch := omega) only [n_le]
  rw [if_pos (by have := h9 hp; omega)]
/-- one piece on -/
theorem x_step {b : Nat → Int32} {L p e : Nat} {kd vl : Int32} {σ : mm_S} (h : CP b L σ p kd vl e) (hp : p < L) : ∃ i kd' vl' e', f_X4_step 3 σ = some (st σ i) ∧ CP b L (st σ i) (sk b L e) kd' vl' e' := by
  obtain ⟨N, i, C, h2, h3, h4, h5, h6, h7, h8, h9⟩ := h
  obtain ⟨q1, q2⟩ := h8 hp
  have te := TK_e h7
  obtain ⟨kd', vl', e', R⟩ := st_CP C q1 (ed_lt isb b (L := L) (i := e) te.2.1) q2
  exact ⟨i + 1, kd', vl', e', x_step0 C.2.2.2.1 (by rw [h3]; exact n_add i 1) q1 C.2.2.1, R⟩
theorem x_begin4 {b : Nat → Int32} {L : Nat} {σ : mm_S} (T : CB b L σ) : wp (f_X4_begin 3 σ) (fun τ => (∃ kd vl e, CP b L τ (sk b L 0) kd vl e) ∧ τ.1 3 9 = 0 ∧ τ.1 3 10 = 0) := by
  unfold f_X4_begin
  obtain ⟨τ, e, N, C⟩ := x_cut T
  rw [e, bv_s, lt_eq, lt_eq, lt_eq]
  generalize hu : su_i (su_i (su_i τ 3 9 0) 3 10 0) 3 5 (-1) = υ
  have uo : ∀ a k, ¬ (a = 3 ∧ (k = 9 ∨ k = 10 ∨ k = 5)) → υ.1 a k = τ.1 a k := fun a k q => by
    rw [← hu, rd_ii, if_neg (by omega), rd_ii, if_neg (by omega), rd_ii, if_neg (by omega)]
  have C' : CU b L υ N := CU_keep C (fun a k q => uo a k (by omega))
  have u5 : υ.1 3 5 + 1 = Int32.ofNat 0 := by rw [← hu, rd_is]; decide
  have hN := C'.2.1
  rw [x_step0 C'.2.2.2.1 u5 (by omega) C'.2.2.1, bv_s, wp_some]
  obtain ⟨p, e', q1, q2, q3, -⟩ := C'.2.2.2.2 0 (by omega)
  have := (TK_e q2).1
  obtain ⟨kd, vl, e2, R⟩ := st_CP C' (i := 0) (by omega) (p := p) this q1
  rw [q3 rfl] at R
  refine ⟨⟨kd, vl, e2, R⟩, ?_, ?_⟩
  · rw [st_o _ _ (by omega), ← hu, rd_ik _ _ _ _ _ _ (by omega), rd_ik _ _ _ _ _ _ (by omega), rd_is]
  · rw [st_o _ _ (by omega), ← hu, rd_ik _ _ _ _ _ _ (by omega), rd_is]
