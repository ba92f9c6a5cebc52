/-! whom one looks for -/
def wv (l o : Nat) (tl to pl po d : Int32) (bk : Int64) (sk bi tr h : Int32) : Nat → Int64
  | 0 => (Int32.ofNat l).toInt64
  | 1 => (Int32.ofNat o).toInt64
  | 2 => tl.toInt64
  | 3 => to.toInt64
  | 4 => pl.toInt64
  | 5 => po.toInt64
  | 6 => d.toInt64
  | 7 => bk
  | 8 => sk.toInt64
  | 9 => bi.toInt64
  | 10 => tr.toInt64
  | 11 => (h - h / (12 : Int32) * (12 : Int32)).toInt64
  | 12 => h.toInt64
  | _ => 0
theorem K223 : (mm_K 223).2 = 13 := by decide +kernel
theorem K209 : (mm_K 209).2 = 13 := by decide +kernel
/-- the reference's sum by RULE k -/
theorem r_sumOf {n i k l o : Nat} {ρ : mm_S} {Q : Int64 × mm_S → Prop} (h3 : ρ.1 224 3 = Int32.ofNat n) (hn : n ≤ 6) (hi : i < 2 ^ n) (hf : ∀ l, l < n → ρ.1 224 (11 + 5 * l + 2) = bt (Int32.ofNat i) l)
    (hk : k < 6) (hfc : ρ.1 214 21 = Int32.ofNat k) (hl : l < 6) (ho : o < 6)
    (H : ∀ υ : mm_S, υ.1 = ρ.1 → (∀ j, j < 13 → υ.2.1 223 j = wv l o (ρ.1 224 (11 + 5 * l)) (ρ.1 224 (11 + 5 * o)) (ρ.1 224 (11 + 5 * l + 1)) (ρ.1 224 (11 + 5 * o + 1)) (ρ.1 224 (53 + 6 * l + o)) (if ρ.1 226 o = Int32.ofNat l then 1 else 0) (ρ.1 227 o) (Int32.ofNat (pcn i)) (ρ.1 214 28) (ρ.1 224 10) j) →
      wp (f_X10_summedBy 214 (Int32.ofNat k) υ) Q) : wp (f_X10_sumOf 214 (Int32.ofNat l) (Int32.ofNat o) ρ) Q := by
  unfold f_X10_sumOf
  have c0 : (0 : Int32) ≤ Int32.ofNat k := by rw [show (0 : Int32) = Int32.ofNat 0 from rfl, n_le (by omega) (by omega)]; omega
  rw [hfc, if_pos c0]
  simp (disch := omega) only [n_lit, gd_n, n_idx, lt_eq, r_tiredOf, r_penceOf, bd_s, rd_ji, n_mul, n_add]
  have body : ∀ (b : Int64) (τ : mm_S), τ.1 = ρ.1 → (∀ j, j < 7 → τ.2.1 223 j = wv l o (ρ.1 224 (11 + 5 * l)) (ρ.1 224 (11 + 5 * o)) (ρ.1 224 (11 + 5 * l + 1)) (ρ.1 224 (11 + 5 * o + 1)) (ρ.1 224 (53 + 6 * l + o)) b (ρ.1 227 o) (Int32.ofNat (pcn i)) (ρ.1 214 28) (ρ.1 224 10) j) → b = (if ρ.1 226 o = Int32.ofNat l then 1 else 0) →
      wp (f_X10_sumOf_121 214 (Int32.ofNat o) 223 (Int32.ofNat 7) b τ) Q := by
    intro b τ e1 e2 eb
    unfold f_X10_sumOf_121
    simp (disch := omega) only [n_lit, gd_n, n_idx, lt_eq, K223]
    rw [r_inside (n := n) (i := i) _ (by simp only [rd_ji, e1]; exact h3) hn hi (by simp only [rd_ji, e1]; exact hf), bd_s, r_bits (p64 hn hi), bd_s]
    simp only [rd_ji, e1, hfc]
    rw [wp_bd]
    refine wp_mono (H _ ?_ ?_) (fun r hr => wp_some.mpr hr)
    · simp only [rd_ji, e1]
    · intro j hj
      rw [← eb]
      simp only [rd_jj, true_and]
      rcases (by omega : j = 0 ∨ j = 1 ∨ j = 2 ∨ j = 3 ∨ j = 4 ∨ j = 5 ∨ j = 6 ∨ j = 7 ∨ j = 8 ∨ j = 9 ∨ j = 10 ∨ j = 11 ∨ j = 12) with rfl | rfl | rfl | rfl | rfl | rfl | rfl | rfl | rfl | rfl | rfl | rfl | rfl
      · exact e2 0 (by omega)
      · exact e2 1 (by omega)
      · exact e2 2 (by omega)
      · exact e2 3 (by omega)
      · exact e2 4 (by omega)
      · exact e2 5 (by omega)
      · exact e2 6 (by omega)
      all_goals rfl
  by_cases c : ρ.1 226 o = Int32.ofNat l
  · simp only [c, if_true]
    refine body 1 _ (by simp only [rd_ji]) ?_ (if_pos c).symm
    intro j hj
    simp only [rd_jj, true_and]
    rcases (by omega : j = 0 ∨ j = 1 ∨ j = 2 ∨ j = 3 ∨ j = 4 ∨ j = 5 ∨ j = 6) with rfl | rfl | rfl | rfl | rfl | rfl | rfl <;> rfl
  · simp only [c, if_false]
    refine body 0 _ (by simp only [rd_ji]) ?_ (if_neg c).symm
    intro j hj
    simp only [rd_jj, true_and]
    rcases (by omega : j = 0 ∨ j = 1 ∨ j = 2 ∨ j = 3 ∨ j = 4 ∨ j = 5 ∨ j = 6) with rfl | rfl | rfl | rfl | rfl | rfl | rfl <;> rfl
theorem h_worth {n h q i l o : Nat} {σ ρ : mm_S} (hp : HP n σ ρ) (hx : nx σ 201 ρ 224 10) (ei : σ.1 201 1 = Int32.ofNat i) (hi : i < 2 ^ n)
    (sk : ∀ l, l < n → ρ.1 227 l = σ.1 208 l) (sg : ∀ l, l < n → ρ.1 226 l = σ.1 207 l) (hl : l < n) (ho : o < n) (σ6 : mm_S) (e1 : ∀ a k, a ≠ 210 → σ6.1 a k = σ.1 a k) (ew : σ6.2.2 = σ.2.2)
    (hw : ∀ j, j < 13 → σ6.2.1 209 j = wv l o (σ.1 202 l) (σ.1 202 o) (σ.1 203 l) (σ.1 203 o) (σ.1 30 (l * 6 + o)) (if σ.1 207 o = Int32.ofNat l then 1 else 0) (σ.1 208 o) (Int32.ofNat (pcn i)) (ρ.1 214 28) (σ.1 201 0) j)
    (ρ' : mm_S) (er : ∀ a k, a ≠ 222 → a ≠ 223 → ¬ (a = 214 ∧ k = 18) → ρ'.1 a k = ρ.1 a k) :
    wp (f_X7_worthByRule 200 σ6) (fun r => wp (f_X10_sumOf 214 (Int32.ofNat l) (Int32.ofNat o) ρ') (fun r' => r.1 = r'.1)) := by
  obtain ⟨⟨hn, a1, a2⟩, -, -, -, p5, -, -, pr⟩ := id hp
  obtain ⟨x1, x2⟩ := hx
  have t : ∀ l, l < n → ρ'.1 224 (11 + 5 * l) = σ.1 202 l := fun l hl => by
    rw [er _ _ (by omega) (by omega) (by omega), show 11 + 5 * l = 10 + 1 + 5 * l by omega]; exact (x2 l (by omega)).1
  have p : ∀ l, l < n → ρ'.1 224 (11 + 5 * l + 1) = σ.1 203 l := fun l hl => by
    rw [er _ _ (by omega) (by omega) (by omega), show 11 + 5 * l + 1 = 10 + 2 + 5 * l by omega]; exact (x2 l (by omega)).2.1
  rcases pr with ⟨f1, f2, f3, f4, f5⟩ | ⟨k, hk, f1, f2, f3⟩
  · refine wp_mono (x_worth0 (ew.trans f2) (by rw [e1 _ _ (by omega)]; exact f3) (by rw [e1 _ _ (by omega)]; exact f4) (by rw [e1 _ _ (by omega)]; exact f5)) ?_
    intro r hr
    unfold f_X10_sumOf
    rw [er _ _ (by omega) (by omega) (by omega), f1, if_neg (by decide), r_tiredOf _ (by omega), bd_s, wp_some, hr, hw 3 (by omega), t o ho]
    rfl
  · rw [wp_swap]
    refine r_sumOf (n := n) (i := i) (k := k) (by rw [er _ _ (by omega) (by omega) (by omega)]; exact a2) hn hi (fun l hl => ?_) hk (by rw [er _ _ (by omega) (by omega) (by omega)]; exact f1) (by omega) (by omega) ?_
    · rw [er _ _ (by omega) (by omega) (by omega), show 11 + 5 * l + 2 = 10 + 3 + 5 * l by omega, (x2 l (by omega)).2.2.1, ei]
    · intro υ u1 u2
      rw [wp_swap]
      refine f3 σ6 υ (fun j => by rw [e1 _ _ (by omega)]) (fun j => by rw [e1 _ _ (by omega)]) (ew.trans f2) (fun j hj => by rw [u1, er _ _ (by omega) (by omega) (by omega)]) (fun j hj => by rw [u1, er _ _ (by omega) (by omega) (by omega)]) (by rw [u1, er _ _ (by omega) (by omega) (by omega)]) (fun j hj => ?_)
      have dd : ρ.1 224 (53 + 6 * l + o) = σ.1 30 (l * 6 + o) := by
        rw [show 53 + 6 * l + o = 53 + (l * 6 + o) by omega]; exact p5 _ (by omega)
      have tl := t l hl
      have to := t o ho
      have pl := p l hl
      have po := p o ho
      rw [hw j hj, u2 j hj, tl, to, pl, po, er 224 (53 + 6 * l + o) (by omega) (by omega) (by omega), dd, er 226 o (by omega) (by omega) (by omega), sg o ho, er 227 o (by omega) (by omega) (by omega), sk o ho, er 214 28 (by omega) (by omega) (by omega), er 224 10 (by omega) (by omega) (by omega), x1]
/-- whom one looks for, on both sides -/
theorem h_best {n h q l : Nat} {σ ρ : mm_S} (hp : HP n σ ρ) (hj : nj n h q σ 201) (hx : nx σ 201 ρ 224 10)
    (sk : ∀ l, l < n → ρ.1 227 l = σ.1 208 l) (sg : ∀ l, l < n → ρ.1 226 l = σ.1 207 l) (hl : l < n) :
    wp (f_X7_bestOther 200 (Int32.ofNat l) (ρ.1 214 28) σ) (fun r => wp (f_X10_choice 214 (Int32.ofNat l) ρ) (fun r' => r.1 = r'.1 ∧ (r.1 = -1 ∨ ∃ o, o < n ∧ r.1 = Int32.ofNat o) ∧ (∀ a k, a ≠ 210 → r.2.1 a k = σ.1 a k) ∧ r.2.2.2 = σ.2.2 ∧ ∀ a k, a ≠ 222 → a ≠ 223 → ¬ (a = 214 ∧ k = 18) → r'.2.1 a k = ρ.1 a k)) := by
  obtain ⟨⟨hn, a1, a2⟩, -, -, -, p5, -, -, pr⟩ := id hp
  obtain ⟨j1, ⟨i, hi, ei⟩, -⟩ := id hj
  unfold f_X7_bestOther f_X10_choice
  simp (disch := omega) only [show (0 : Int32) = Int32.ofNat 0 from rfl, show (2 : Int32) = Int32.ofNat 2 from rfl, show (4 : Int32) = Int32.ofNat 4 from rfl, show (9 : Int32) = Int32.ofNat 9 from rfl, show (10 : Int32) = Int32.ofNat 10 from rfl, show (11 : Int32) = Int32.ofNat 11 from rfl, gd_n, n_idx, lt_eq, x_bits, bd_s, rd_ji]
  rw [show gd (12 : Int32) 13 _ = _ from gd_n (k := 12) (by omega) (by omega)]
  rw [ei, bc_n i (p64 hn hi)]
  unfold f_X7_bestOther_108 f_X10_choice_7
  refine wp_lp2 (fun m v σ' w ρ' => ∃ o, o ≤ n ∧ m = n - o ∧ v.2.2 = Int32.ofNat o ∧ w = v ∧ (v.1 = -1 ∨ ∃ o, o < n ∧ v.1 = Int32.ofNat o) ∧ (∀ a k, a ≠ 210 → σ'.1 a k = σ.1 a k) ∧ σ'.2.2 = σ.2.2 ∧ (∀ a k, a ≠ 222 → a ≠ 223 → ¬ (a = 214 ∧ k = 18) → ρ'.1 a k = ρ.1 a k) ∧
    (σ'.2.1 209 0 = (Int32.ofNat l).toInt64 ∧ σ'.2.1 209 2 = (σ.1 202 l).toInt64 ∧ σ'.2.1 209 4 = (σ.1 203 l).toInt64 ∧ σ'.2.1 209 9 = (Int32.ofNat (pcn i)).toInt64 ∧ σ'.2.1 209 10 = (ρ.1 214 28).toInt64 ∧ σ'.2.1 209 11 = (σ.1 201 0 - σ.1 201 0 / (12 : Int32) * (12 : Int32)).toInt64 ∧ σ'.2.1 209 12 = (σ.1 201 0).toInt64)) ?_ lpN n _ _ _ _ (Nat.lt_of_le_of_lt hn (by decide))
    ⟨0, by omega, by omega, rfl, rfl, Or.inl rfl, fun _ _ _ => rfl, rfl, fun _ _ _ _ _ => rfl, by simp only [rd_jj, true_and]; rfl, by simp only [rd_jj, true_and]; rfl, by simp only [rd_jj, true_and]; rfl, by simp only [rd_jj, true_and]; rfl, by simp only [rd_jj, true_and]; rfl, by simp only [rd_jj, true_and]; rfl, by simp only [rd_jj, true_and]; rfl⟩
  rintro m rec rec' ⟨v1, v2, v3⟩ σ' w ρ' ⟨o, ho, rfl, e3, rfl, hv, c1, c2, c3, w0, w2, w4, w9, w10, w11, w12⟩ hrec
  replace e3 : v3 = Int32.ofNat o := e3
  subst e3
  replace hv : v1 = -1 ∨ ∃ o, o < n ∧ v1 = Int32.ofNat o := hv
  rw [show (3 : Int32) = Int32.ofNat 3 from rfl]
  simp (disch := omega) only [c1, a1, gd_n, n_idx, c3, a2, n_le, n_eq]
  by_cases cn : o = n
  · subst cn; simp only [Nat.le_refl, if_true, wp_some]; exact ⟨trivial, hv, c1, c2, c3⟩
  · simp only [show ¬ (n ≤ o) by omega, if_false]
    by_cases cl : o = l
    · simp only [cl, if_true, lt_eq, n_addI]
      exact hrec (n - (l + 1)) _ _ _ _ (by omega) ⟨l + 1, by omega, rfl, rfl, rfl, hv, c1, c2, c3, w0, w2, w4, w9, w10, w11, w12⟩
    · simp only [cl, if_false]
      have body : ∀ b : Int64, b = (if σ.1 207 o = Int32.ofNat l then 1 else 0) → ∀ σ35 : mm_S, (∀ a k, a ≠ 210 → σ35.1 a k = σ.1 a k) → σ35.2.2 = σ.2.2 → (∀ j, j < 13 → j ≠ 7 → j ≠ 8 → σ35.2.1 209 j = wv l o (σ.1 202 l) (σ.1 202 o) (σ.1 203 l) (σ.1 203 o) (σ.1 30 (l * 6 + o)) b (σ.1 208 o) (Int32.ofNat (pcn i)) (ρ.1 214 28) (σ.1 201 0) j) →
        wp (f_X7_bestOther_209 rec 200 (Int32.ofNat l) v1 v2 (Int32.ofNat o) 209 (7 : Int32) b σ35) (fun r => wp (bd (f_X10_sumOf 214 (Int32.ofNat l) (Int32.ofNat o) ρ') fun r6 σ5 =>
          if 0 < lg_cmp r6 v2 then lt (Int32.ofNat o + Int32.ofInt 1) fun x8 => rec' (Int32.ofNat o, r6, x8) σ5 else lt (Int32.ofNat o + Int32.ofInt 1) fun x10 => rec' (v1, v2, x10) σ5) (fun r' => r.1 = r'.1 ∧ (r.1 = -1 ∨ ∃ o, o < n ∧ r.1 = Int32.ofNat o) ∧ (∀ a k, a ≠ 210 → r.2.1 a k = σ.1 a k) ∧ r.2.2.2 = σ.2.2 ∧ ∀ a k, a ≠ 222 → a ≠ 223 → ¬ (a = 214 ∧ k = 18) → r'.2.1 a k = ρ.1 a k)) := by
        intro b eb σ35 s1 s2 s3
        unfold f_X7_bestOther_209
        rw [show (7 : Int32) = Int32.ofNat 7 from rfl, show (8 : Int32) = Int32.ofNat 8 from rfl]
        simp (disch := omega) only [K209, gd_n, n_idx, lt_eq, rd_ji, s1]
        generalize hσ6 : su_j (su_j σ35 209 7 b) 209 8 (σ.1 208 o).toInt64 = σ6
        have q1 : ∀ a k, a ≠ 210 → σ6.1 a k = σ.1 a k := by rw [← hσ6]; exact s1
        have q2 : σ6.2.2 = σ.2.2 := by rw [← hσ6]; exact s2
        have q3 : ∀ j, j < 13 → σ6.2.1 209 j = wv l o (σ.1 202 l) (σ.1 202 o) (σ.1 203 l) (σ.1 203 o) (σ.1 30 (l * 6 + o)) (if σ.1 207 o = Int32.ofNat l then 1 else 0) (σ.1 208 o) (Int32.ofNat (pcn i)) (ρ.1 214 28) (σ.1 201 0) j := by
          intro j hj
          rw [← eb, ← hσ6]
          simp only [rd_jj, true_and]
          by_cases d8 : j = 8
          · subst d8; rfl
          · by_cases d7 : j = 7
            · subst d7; rfl
            · rw [if_neg d8, if_neg d7]; exact s3 j hj d7 d8
        have W := h_worth (h := h) (q := q) hp hx ei hi sk sg hl (show o < n by omega) σ6 q1 q2 q3 ρ' c3
        obtain ⟨r, er, r', er', eq⟩ := W
        have F := fr_X7_worthByRule (P := fun a k => a ≠ 210) (a0 := 200) (fun a k q => by omega) (ko_refl (σ := σ6)) r er
        have F' := fr_X10_sumOf (P := fun a k => a ≠ 223 ∧ a ≠ 222 ∧ ¬ (a = 214 ∧ k = 18)) (a0 := 214) (i1 := Int32.ofNat l) (i2 := Int32.ofNat o) (fun a k q => by omega) (ko_refl (σ := ρ')) r' er'
        rw [er, er', show r = (r.1, r.2) from rfl, show r' = (r'.1, r'.2) from rfl, bd_s, bd_s, ← eq]
        have hinv : ∀ o' : Nat, (∀ a k, a ≠ 210 → r.2.1 a k = σ.1 a k) ∧ r.2.2.2 = σ.2.2 ∧ (∀ a k, a ≠ 222 → a ≠ 223 → ¬ (a = 214 ∧ k = 18) → r'.2.1 a k = ρ.1 a k) ∧
            (r.2.2.1 209 0 = (Int32.ofNat l).toInt64 ∧ r.2.2.1 209 2 = (σ.1 202 l).toInt64 ∧ r.2.2.1 209 4 = (σ.1 203 l).toInt64 ∧ r.2.2.1 209 9 = (Int32.ofNat (pcn i)).toInt64 ∧ r.2.2.1 209 10 = (ρ.1 214 28).toInt64 ∧ r.2.2.1 209 11 = (σ.1 201 0 - σ.1 201 0 / (12 : Int32) * (12 : Int32)).toInt64 ∧ r.2.2.1 209 12 = (σ.1 201 0).toInt64) := by
          intro _
          refine ⟨fun a k ha => (F.1 a k ha).trans (q1 a k ha), (F.2.2 (by omega)).trans q2, fun a k h1 h2 ha => (F'.1 a k (by omega)).trans (c3 a k h1 h2 ha), ?_⟩
          · rw [F.2.1 209 0 (by omega), F.2.1 209 2 (by omega), F.2.1 209 4 (by omega), F.2.1 209 9 (by omega), F.2.1 209 10 (by omega), F.2.1 209 11 (by omega), F.2.1 209 12 (by omega), q3 0 (by omega), q3 2 (by omega), q3 4 (by omega), q3 9 (by omega), q3 10 (by omega), q3 11 (by omega), q3 12 (by omega)]
            exact ⟨rfl, rfl, rfl, rfl, rfl, rfl, rfl⟩
        by_cases c : 0 < lg_cmp r.1 v2
        · rw [if_neg (by rw [Int32.not_le]; exact c), if_pos c]
          simp only [lt_eq, n_addI]
          exact hrec (n - (o + 1)) _ _ _ _ (by omega) ⟨o + 1, by omega, rfl, rfl, rfl, Or.inr ⟨o, by omega, rfl⟩, hinv 0⟩
        · rw [if_pos (by rw [← Int32.not_lt]; exact c), if_neg c]
          simp only [lt_eq, n_addI]
          exact hrec (n - (o + 1)) _ _ _ _ (by omega) ⟨o + 1, by omega, rfl, rfl, rfl, hv, hinv 0⟩
      rw [show (1 : Int32) = Int32.ofNat 1 from rfl, show (5 : Int32) = Int32.ofNat 5 from rfl, show (6 : Int32) = Int32.ofNat 6 from rfl]
      simp (disch := omega) only [gd_n, n_idx, lt_eq, x_dearness, bd_s, rd_ji, c1]
      by_cases cb : σ.1 207 o = Int32.ofNat l
      · simp only [cb, if_true]
        refine body 1 (if_pos cb).symm _ (by simp only [rd_ji]; exact c1) (by simp only [rd_jw]; exact c2) ?_
        intro j hj h7 h8
        simp only [rd_jj, true_and]
        rcases (by omega : j = 0 ∨ j = 1 ∨ j = 2 ∨ j = 3 ∨ j = 4 ∨ j = 5 ∨ j = 6 ∨ j = 9 ∨ j = 10 ∨ j = 11 ∨ j = 12) with rfl | rfl | rfl | rfl | rfl | rfl | rfl | rfl | rfl | rfl | rfl
        · exact w0
        · rfl
        · exact w2
        · rfl
        · exact w4
        · rfl
        · rfl
        · exact w9
        · exact w10
        · exact w11
        · exact w12
      · simp only [cb, if_false]
        refine body 0 (if_neg cb).symm _ (by simp only [rd_ji]; exact c1) (by simp only [rd_jw]; exact c2) ?_
        intro j hj h7 h8
        simp only [rd_jj, true_and]
        rcases (by omega : j = 0 ∨ j = 1 ∨ j = 2 ∨ j = 3 ∨ j = 4 ∨ j = 5 ∨ j = 6 ∨ j = 9 ∨ j = 10 ∨ j = 11 ∨ j = 12) with rfl | rfl | rfl | rfl | rfl | rfl | rfl | rfl | rfl | rfl | rfl
        · exact w0
        · rfl
        · exact w2
        · rfl
        · exact w4
        · rfl
        · rfl
        · exact w9
        · exact w10
        · exact w11
        · exact w12
