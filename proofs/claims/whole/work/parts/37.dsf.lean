/-! house, the whole call -/
theorem x_empty (σ : mm_S) : wp (f_X1_empty 7 σ) (fun τ => (∀ k, k ≤ 4 → τ.1 7 k = 0) ∧ (∀ k, k < 6 → τ.1 8 k = 0 ∧ τ.1 9 k = 0) ∧ (∀ k, k < 36 → τ.1 10 k = 0) ∧ ∀ a k, ¬ (7 ≤ a ∧ a ≤ 10) → τ.1 a k = σ.1 a k) := by
  unfold f_X1_empty
  rw [lt_eq, lt_eq, lt_eq, lt_eq, lt_eq, wp_bv]
  refine wp_mono (x_fill (a := 7 + 1) 0 _ (by decide +kernel)) ?_
  rintro σ1 ⟨f1, f2, -⟩
  rw [wp_bv]
  refine wp_mono (x_fill (a := 7 + 2) 0 _ (by decide +kernel)) ?_
  rintro σ2 ⟨g1, g2, -⟩
  rw [wp_bv]
  refine wp_mono (x_fill (a := 7 + 3) 0 _ (by decide +kernel)) ?_
  rintro σ3 ⟨h1, h2, -⟩
  rw [wp_some]
  refine ⟨fun k hk => ?_, fun k hk => ⟨?_, ?_⟩, fun k hk => ?_, fun a k q => ?_⟩
  · rw [h2 _ _ (by decide), g2 _ _ (by decide), f2 _ _ (by decide), rd_ii, rd_ii, rd_ii, rd_ii, rd_ii]
    have : k = 0 ∨ k = 1 ∨ k = 2 ∨ k = 3 ∨ k = 4 := by omega
    rcases this with rfl | rfl | rfl | rfl | rfl <;> simp
  · rw [h2 _ _ (by decide), g2 _ _ (by decide)]; exact f1 k (by rw [show (mm_K (7 + 1)).2 = 6 by decide +kernel]; exact hk)
  · rw [h2 _ _ (by decide)]; exact g1 k (by rw [show (mm_K (7 + 2)).2 = 6 by decide +kernel]; exact hk)
  · exact h1 k (by rw [show (mm_K (7 + 3)).2 = 36 by decide +kernel]; exact hk)
  · rw [h2 _ _ (by omega), g2 _ _ (by omega), f2 _ _ (by omega), rd_ia _ _ _ _ _ _ (by omega), rd_ia _ _ _ _ _ _ (by omega), rd_ia _ _ _ _ _ _ (by omega), rd_ia _ _ _ _ _ _ (by omega), rd_ia _ _ _ _ _ _ (by omega)]
theorem x_begin7 (σ : mm_S) : wp (f_X2_begin 31 7 σ) (fun τ => τ.1 31 0 = 0 ∧ τ.1 31 1 = 0 ∧ (∀ l, l < 6 → τ.1 32 l = σ.1 8 l ∧ τ.1 33 l = σ.1 9 l ∧ τ.1 34 l = -1 ∧ τ.1 35 l = 0) ∧ ∀ c k, ¬ (31 ≤ c ∧ c ≤ 35) → τ.1 c k = σ.1 c k) := by
  unfold f_X2_begin
  rw [lt_eq, lt_eq, lt_eq, lt_eq, wp_bv]
  refine wp_mono (x_fill (a := 31 + 3) (-1) _ (by decide +kernel)) ?_
  rintro σ1 ⟨f1, f2, -⟩
  rw [wp_bv]
  refine wp_mono (x_fill (a := 31 + 4) 0 _ (by decide +kernel)) ?_
  rintro τ ⟨g1, g2, -⟩
  rw [wp_some]
  refine ⟨?_, ?_, fun l hl => ⟨?_, ?_, ?_, ?_⟩, fun c k q => ?_⟩
  · rw [g2 _ _ (by decide), f2 _ _ (by decide), rd_ca _ _ _ _ _ _ _ _ (by decide), rd_ca _ _ _ _ _ _ _ _ (by decide), rd_ik _ _ _ _ _ _ (by decide), rd_is]
  · rw [g2 _ _ (by decide), f2 _ _ (by decide), rd_ca _ _ _ _ _ _ _ _ (by decide), rd_ca _ _ _ _ _ _ _ _ (by decide), rd_is]
  · rw [g2 _ _ (by decide), f2 _ _ (by decide), rd_ca _ _ _ _ _ _ _ _ (by decide), rd_cs, if_pos ⟨by omega, by omega⟩, show 0 + (l - 0) = l by omega, rd_ia _ _ _ _ _ _ (by decide), rd_ia _ _ _ _ _ _ (by decide)]
  · rw [g2 _ _ (by decide), f2 _ _ (by decide), rd_cs, if_pos ⟨by omega, by omega⟩, show 0 + (l - 0) = l by omega, rd_ca _ _ _ _ _ _ _ _ (by decide), rd_ia _ _ _ _ _ _ (by decide), rd_ia _ _ _ _ _ _ (by decide)]
  · rw [g2 _ _ (by decide)]; exact f1 l (by rw [show (mm_K (31 + 3)).2 = 6 by decide +kernel]; exact hl)
  · exact g1 l (by rw [show (mm_K (31 + 4)).2 = 6 by decide +kernel]; exact hl)
  · rw [g2 _ _ (by omega), f2 _ _ (by omega), rd_ca _ _ _ _ _ _ _ _ (by omega), rd_ca _ _ _ _ _ _ _ _ (by omega), rd_ia _ _ _ _ _ _ (by omega), rd_ia _ _ _ _ _ _ (by omega)]
/-! the reference: its row of what is read, emptied; then laid over -/
def EX8 (ρ : mm_S) : Option (Int32 × mm_S) := bd (f_X10_readsAll 214 ρ) fun r22 σ21 => if r22 = 0 then some (((-2 : Int32) - (σ21.1 214 9)), σ21) else f_X10_house_44 214 (0 : Int32) σ21
def EX44 (ρ : mm_S) : Option (Int32 × mm_S) := bv (f_X10_begins 214 ρ) fun σ3 => lt (su_i σ3 214 31 (0 : Int32)) fun σ4 => gd (3 : Int32) 121 <| some ((σ4.1 224 (3 : Int32).toNatClampNeg), σ4)
theorem r_h8 (ρ : mm_S) : ∃ ρ', f_X10_house_8 214 0 ρ = EX8 ρ' ∧ (∀ k, k < 90 → ρ'.1 220 k = 0) ∧ ∀ a k, a ≠ 220 → ρ'.1 a k = ρ.1 a k := by
  unfold f_X10_house_8
  have go : ∀ (m j N : Nat) (τ : mm_S), m = 90 - j → j ≤ 90 → m < N → (∀ k, k < j → τ.1 220 k = 0) → (∀ a k, a ≠ 220 → τ.1 a k = ρ.1 a k) → ∃ ρ', lp N (fun (k8 : (Int32) → mm_S → Option (Int32 × mm_S)) (v : Int32) (σ : mm_S) =>
      if (90 : Int32) ≤ v then
        bd (f_X10_readsAll 214 σ) fun r22 σ21 =>
        if r22 = 0 then
          some (((-2 : Int32) - (σ21.1 214 9)), σ21)
        else
          f_X10_house_44 214 (0 : Int32) σ21
      else
        gd v 90 <|
        lt (su_i σ 220 v.toNatClampNeg (0 : Int32)) fun σ25 =>
        lt (v + Int32.ofInt (1)) fun x27 =>
        k8 x27 σ25) (Int32.ofNat j) τ = EX8 ρ' ∧ (∀ k, k < 90 → ρ'.1 220 k = 0) ∧ ∀ a k, a ≠ 220 → ρ'.1 a k = ρ.1 a k := by
    intro m
    induction m with
    | zero =>
      intro j N τ hm hj hN hz ho
      obtain ⟨N', rfl⟩ : ∃ n, N = n + 1 := ⟨N - 1, by omega⟩
      have j90 : j = 90 := by omega
      subst j90
      rw [lp_so, if_pos (by decide)]
      exact ⟨τ, rfl, hz, ho⟩
    | succ m ih =>
      intro j N τ hm hj hN hz ho
      obtain ⟨N', rfl⟩ : ∃ n, N = n + 1 := ⟨N - 1, by omega⟩
      rw [lp_so, if_neg (by rw [show (90 : Int32) = Int32.ofNat 90 from rfl, n_le (by omega) (by omega)]; omega), gd_n (by omega) (by omega), n_idx (by omega), lt_eq, lt_eq, n_addI]
      refine ih (j + 1) N' _ (by omega) (by omega) (by omega) (fun k hk => ?_) (fun a k q => by rw [rd_ia _ _ _ _ _ _ q]; exact ho a k q)
      by_cases c : k = j
      · rw [c, rd_is]
      · rw [rd_ik _ _ _ _ _ _ c]; exact hz k (by omega)
  exact go 90 0 lpN ρ rfl (by omega) (by decide) (fun k hk => by omega) (fun _ _ _ => rfl)
theorem r_h44 (ρ : mm_S) : ∃ ρ', f_X10_house_44 214 0 ρ = EX44 ρ' ∧ (∀ k, k < 90 → ρ'.1 224 k = ρ.1 220 k) ∧ (∀ k, 90 ≤ k → k < 121 → ρ'.1 224 k = 0) ∧ ∀ a k, a ≠ 224 → ρ'.1 a k = ρ.1 a k := by
  unfold f_X10_house_44
  have go : ∀ (m j N : Nat) (τ : mm_S), m = 121 - j → j ≤ 121 → m < N → (∀ k, k < j → k < 90 → τ.1 224 k = ρ.1 220 k) → (∀ k, k < j → 90 ≤ k → τ.1 224 k = 0) → (∀ a k, a ≠ 224 → τ.1 a k = ρ.1 a k) → ∃ ρ', lp N (fun (k44 : (Int32) → mm_S → Option (Int32 × mm_S)) (v : Int32) (σ : mm_S) =>
      if (121 : Int32) ≤ v then
        bv (f_X10_begins 214 σ) fun σ3 =>
        lt (su_i σ3 214 31 (0 : Int32)) fun σ4 =>
        gd (3 : Int32) 121 <|
        some ((σ4.1 224 (3 : Int32).toNatClampNeg), σ4)
      else
        if (90 : Int32) ≤ v then
          gd v 121 <|
          lt (su_i σ 224 v.toNatClampNeg (0 : Int32)) fun σ9 =>
          lt (v + Int32.ofInt (1)) fun x11 =>
          k44 x11 σ9
        else
          gd v 90 <|
          gd v 121 <|
          lt (su_i σ 224 v.toNatClampNeg (σ.1 220 v.toNatClampNeg)) fun σ15 =>
          lt (v + Int32.ofInt (1)) fun x17 =>
          k44 x17 σ15) (Int32.ofNat j) τ = EX44 ρ' ∧ (∀ k, k < 90 → ρ'.1 224 k = ρ.1 220 k) ∧ (∀ k, 90 ≤ k → k < 121 → ρ'.1 224 k = 0) ∧ ∀ a k, a ≠ 224 → ρ'.1 a k = ρ.1 a k := by
    intro m
    induction m with
    | zero =>
      intro j N τ hm hj hN h1 h2 h3
      obtain ⟨N', rfl⟩ : ∃ n, N = n + 1 := ⟨N - 1, by omega⟩
      have j90 : j = 121 := by omega
      subst j90
      rw [lp_so, if_pos (by decide)]
      exact ⟨τ, rfl, fun k hk => h1 k (by omega) hk, fun k q hk => h2 k hk q, h3⟩
    | succ m ih =>
      intro j N τ hm hj hN h1 h2 h3
      obtain ⟨N', rfl⟩ : ∃ n, N = n + 1 := ⟨N - 1, by omega⟩
      rw [lp_so, if_neg (by rw [show (121 : Int32) = Int32.ofNat 121 from rfl, n_le (by omega) (by omega)]; omega), show (90 : Int32) = Int32.ofNat 90 from rfl]
      simp (disch := omega) only [n_le]
      by_cases c90 : 90 ≤ j
      · rw [if_pos c90, gd_n (by omega) (by omega), n_idx (by omega), lt_eq, lt_eq, n_addI]
        refine ih (j + 1) N' _ (by omega) (by omega) (by omega) (fun k hk hk2 => ?_) (fun k hk q => ?_) (fun a k q => by rw [rd_ia _ _ _ _ _ _ q]; exact h3 a k q)
        · rw [rd_ik _ _ _ _ _ _ (by omega)]; exact h1 k (by omega) hk2
        · by_cases c : k = j
          · rw [c, rd_is]
          · rw [rd_ik _ _ _ _ _ _ c]; exact h2 k (by omega) q
      · rw [if_neg c90, gd_n (by omega) (by omega), gd_n (by omega) (by omega), n_idx (by omega), lt_eq, lt_eq, n_addI]
        refine ih (j + 1) N' _ (by omega) (by omega) (by omega) (fun k hk hk2 => ?_) (fun k hk q => ?_) (fun a k q => by rw [rd_ia _ _ _ _ _ _ q]; exact h3 a k q)
        · by_cases c : k = j
          · rw [c, rd_is]; exact h3 _ _ (by omega)
          · rw [rd_ik _ _ _ _ _ _ c]; exact h1 k (by omega) hk2
        · rw [rd_ik _ _ _ _ _ _ (by omega)]; exact h2 k (by omega) q
  exact go 121 0 lpN ρ rfl (by omega) (by decide) (fun k hk => by omega) (fun k hk => by omega) (fun _ _ _ => rfl)
/-! a text of a HOUSE leaves the RULES alone -/
def P6 (a k : Nat) : Prop := a = 216 ∨ a = 218 ∨ a = 219 ∨ (a = 214 ∧ k = 11)
theorem fr6_clause {ρ0 ρ : mm_S} (h6 : ρ0.1 214 11 = 6) (h : ko_K P6 ρ0 ρ) : ko Prod.snd P6 ρ0 (f_X10_clauseHere 214 ρ) := by
  unfold f_X10_clauseHere
  refine ko_bd (fr_X10_see (by intro a k q; unfold P6 at q; omega) h) (fun _ τ hτ => ?_)
  refine ko_ltx (fun x => ?_)
  have e11 : τ.1 214 11 = 6 := (hτ.1 _ _ (by unfold P6; omega)).trans h6
  rw [if_pos e11]
  unfold f_X10_clauseHere_24
  rw [if_neg (show ¬ ((1 : Int32) = 0) by decide)]
  refine ko_bd (fr_X10_isHouseWord (by intro a k q; unfold P6 at q; omega) hτ) (fun _ υ hυ => ?_)
  refine ko_ite ?_ ?_
  · refine ko_bd (fr_X10_fails (by intro a k q; unfold P6 at q; omega) hυ) (fun _ ω hω => ?_)
    exact ko_gb (ko_someR hω)
  · unfold f_X10_clauseHere_56 f_X10_clauseHere_71
    rw [if_neg (show ¬ ((1 : Int32) = 0) by decide)]
    refine ko_ite ?_ ?_
    · refine ko_bd (fr_X10_fails (by intro a k q; unfold P6 at q; omega) hυ) (fun _ ω hω => ?_)
      exact ko_gb (ko_someR hω)
    · refine ko_lts (ko_sui hυ (by intro a k q; unfold P6 at q; omega)) (fun ω hω => ?_)
      rw [if_neg (show ¬ ((1 : Int32) = 0) by decide)]
      refine ko_bd (fr_X10_houseLineHere (by intro a k q; unfold P6 at q; omega) hω) (fun _ ψ hψ => ?_)
      exact ko_gb (ko_someR hψ)
theorem fr6_all {ρ0 ρ : mm_S} (h6 : ρ0.1 214 11 = 6) (h : ko_K P6 ρ0 ρ) : ko Prod.snd P6 ρ0 (bd (f_X10_clauseHere 214 ρ) fun r s => f_X10_readsAll_35 214 r s) := by
  refine ko_bd (fr6_clause h6 h) (fun r τ hτ => ?_)
  unfold f_X10_readsAll_35
  refine ko_lp (fun rec hrec v υ hυ => ?_) lpN _ _ hτ
  refine ko_ite ?_ ?_
  · exact fr_X10_readsAll_66 (by intro a k q; unfold P6 at q; omega) hυ
  · refine ko_bd (fr_X10_see (by intro a k q; unfold P6 at q; omega) hυ) (fun _ ω hω => ?_)
    refine ko_ite ?_ ?_
    · refine ko_lts (ko_sui hω (by intro a k q; unfold P6 at q; omega)) (fun ψ hψ => ?_)
      exact ko_bd (fr6_clause h6 hψ) (fun _ χ hχ => hrec _ _ hχ)
    · exact fr_X10_readsAll_66 (by intro a k q; unfold P6 at q; omega) hω
