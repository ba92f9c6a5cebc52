/-! what is asked: walks -/
theorem x_take {a b : Nat} (σ : mm_S) (hab : a + 4 < b ∨ b + 4 < a ∨ a = b) : wp (f_X2_take a b σ) (fun τ => (τ.1 a 0 = σ.1 b 0 ∧ τ.1 a 1 = σ.1 b 1 ∧ ∀ c, 1 ≤ c → c ≤ 4 → ∀ k, k < 6 → τ.1 (a + c) k = σ.1 (b + c) k) ∧ (∀ c k, ¬ (a ≤ c ∧ c ≤ a + 4) → τ.1 c k = σ.1 c k) ∧ τ.2 = σ.2) := by
  unfold f_X2_take
  simp only [lt_eq, wp_some]
  have o : ∀ (υ : mm_S) (c d sp n k : Nat), c ≠ d → (su_c υ sp 0 d 0 n).1 c k = υ.1 c k := fun υ c d sp n k h => rd_ca _ _ _ _ _ _ _ _ h
  have s : ∀ (υ : mm_S) (c d k : Nat), k < 6 → (su_c υ c 0 d 0 6).1 d k = υ.1 c k := fun υ c d k h => by rw [rd_cs, if_pos (by omega), show 0 + (k - 0) = k by omega]
  have e1 : (su_i (su_i σ a 0 (σ.1 b 0)) a 1 ((su_i σ a 0 (σ.1 b 0)).1 b 1)).1 a 0 = σ.1 b 0 := by rw [rd_ik _ _ _ _ _ _ (by decide), rd_is]
  have e2 : (su_i (su_i σ a 0 (σ.1 b 0)) a 1 ((su_i σ a 0 (σ.1 b 0)).1 b 1)).1 a 1 = σ.1 b 1 := by rw [rd_is, rd_ik _ _ _ _ _ _ (by decide)]
  have e3 : ∀ c k, c ≠ a → (su_i (su_i σ a 0 (σ.1 b 0)) a 1 ((su_i σ a 0 (σ.1 b 0)).1 b 1)).1 c k = σ.1 c k := fun c k h => by rw [rd_ia _ _ _ _ _ _ h, rd_ia _ _ _ _ _ _ h]
  have e4 : (su_i (su_i σ a 0 (σ.1 b 0)) a 1 ((su_i σ a 0 (σ.1 b 0)).1 b 1)).2 = σ.2 := rfl
  generalize su_i (su_i σ a 0 (σ.1 b 0)) a 1 ((su_i σ a 0 (σ.1 b 0)).1 b 1) = σ1 at e1 e2 e3 e4 ⊢
  refine ⟨⟨?_, ?_, fun c h1 h2 k hk => ?_⟩, fun c k hc => ?_, ?_⟩
  · rw [o _ _ _ _ _ _ (by omega), o _ _ _ _ _ _ (by omega), o _ _ _ _ _ _ (by omega), o _ _ _ _ _ _ (by omega)]; exact e1
  · rw [o _ _ _ _ _ _ (by omega), o _ _ _ _ _ _ (by omega), o _ _ _ _ _ _ (by omega), o _ _ _ _ _ _ (by omega)]; exact e2
  · rcases (by omega : c = 1 ∨ c = 2 ∨ c = 3 ∨ c = 4) with rfl | rfl | rfl | rfl
    · rw [o _ _ _ _ _ _ (by omega), o _ _ _ _ _ _ (by omega), o _ _ _ _ _ _ (by omega), s _ _ _ _ hk]; exact e3 _ _ (by omega)
    · rw [o _ _ _ _ _ _ (by omega), o _ _ _ _ _ _ (by omega), s _ _ _ _ hk, o _ _ _ _ _ _ (by omega)]; exact e3 _ _ (by omega)
    · rw [o _ _ _ _ _ _ (by omega), s _ _ _ _ hk, o _ _ _ _ _ _ (by omega), o _ _ _ _ _ _ (by omega)]; exact e3 _ _ (by omega)
    · rw [s _ _ _ _ hk, o _ _ _ _ _ _ (by omega), o _ _ _ _ _ _ (by omega), o _ _ _ _ _ _ (by omega)]; exact e3 _ _ (by omega)
  · rw [o _ _ _ _ _ _ (by omega), o _ _ _ _ _ _ (by omega), o _ _ _ _ _ _ (by omega), o _ _ _ _ _ _ (by omega)]; exact e3 _ _ (by omega)
  · exact e4
theorem nj_take {n h q a b : Nat} {σ τ : mm_S} (H : nj n h q σ b) (e0 : τ.1 a 0 = σ.1 b 0) (e1 : τ.1 a 1 = σ.1 b 1) (e : ∀ c, 1 ≤ c → c ≤ 4 → ∀ k, k < 6 → τ.1 (a + c) k = σ.1 (b + c) k) : nj n h q τ a := by
  obtain ⟨j1, j2, j3, j4, j5, j6, j7⟩ := H
  refine ⟨e0.trans j1, by rw [e1]; exact j2, fun l hl => ?_, fun l hl => ?_, fun l hl => ?_, fun l hl => ?_, fun l h1 h2 => ?_⟩
  · rw [e 1 (by omega) (by omega) l hl]; exact j3 l hl
  · rw [e 2 (by omega) (by omega) l hl]; exact j4 l hl
  · rw [e 3 (by omega) (by omega) l hl]; exact j5 l hl
  · rw [e 4 (by omega) (by omega) l hl]; exact j6 l hl
  · rw [e 1 (by omega) (by omega) l h2, e 3 (by omega) (by omega) l h2, e 4 (by omega) (by omega) l h2]; exact j7 l h1 h2
theorem nx_take {a b c o : Nat} {σ τ ρ : mm_S} (H : nx σ b ρ c o) (e0 : τ.1 a 0 = σ.1 b 0) (e1 : τ.1 a 1 = σ.1 b 1) (e : ∀ c, 1 ≤ c → c ≤ 4 → ∀ k, k < 6 → τ.1 (a + c) k = σ.1 (b + c) k) : nx τ a ρ c o := by
  obtain ⟨x1, x2⟩ := H
  refine ⟨x1.trans e0.symm, fun l hl => ?_⟩
  rw [e 1 (by omega) (by omega) l hl, e 2 (by omega) (by omega) l hl, e 3 (by omega) (by omega) l hl, e 4 (by omega) (by omega) l hl, e1]
  exact x2 l hl
theorem nx_ref {a b o b' o' : Nat} {σ ρ υ : mm_S} (H : nx σ a ρ b o) (e : ∀ k, k < 31 → υ.1 b' (o' + k) = ρ.1 b (o + k)) : nx σ a υ b' o' := by
  obtain ⟨x1, x2⟩ := H
  refine ⟨(e 0 (by omega)).trans x1, fun l hl => ?_⟩
  obtain ⟨y1, y2, y3, y4, y5⟩ := x2 l hl
  have a1 := e (1 + 5 * l) (by omega)
  have a2 := e (2 + 5 * l) (by omega)
  have a3 := e (3 + 5 * l) (by omega)
  have a4 := e (4 + 5 * l) (by omega)
  have a5 := e (5 + 5 * l) (by omega)
  simp only [← Nat.add_assoc] at a1 a2 a3 a4 a5
  exact ⟨a1.trans y1, a2.trans y2, a3.trans y3, a4.trans y4, a5.trans y5⟩
/-! the reference keeps a night and lays it back -/
theorem r_keeps (ρ : mm_S) : wp (f_X10_keeps 214 ρ) (fun υ => (∀ k, k < 31 → υ.1 229 k = ρ.1 224 (10 + k)) ∧ ∀ a k, a ≠ 229 → υ.1 a k = ρ.1 a k) := by
  unfold f_X10_keeps f_X10_keeps_2
  refine wp_lp (fun m v τ => ∃ k, k ≤ 31 ∧ m = 31 - k ∧ v = Int32.ofNat k ∧ (∀ j, j < k → τ.1 229 j = ρ.1 224 (10 + j)) ∧ ∀ a k, a ≠ 229 → τ.1 a k = ρ.1 a k) ?_ lpN 31 _ _ (by decide) ⟨0, by omega, by omega, rfl, fun j hj => by omega, fun _ _ _ => rfl⟩
  rintro m rec v τ ⟨k, hk, rfl, rfl, i1, i2⟩ hrec
  rw [show (31 : Int32) = Int32.ofNat 31 from rfl, show (10 : Int32) = Int32.ofNat 10 from rfl]
  simp (disch := omega) only [n_le]
  by_cases c : k = 31
  · subst c; simp only [Nat.le_refl, if_true, wp_some]; exact ⟨i1, i2⟩
  · rw [if_neg (by omega)]
    simp (disch := omega) only [n_add, gd_n, n_idx, lt_eq, n_addI]
    refine hrec (31 - (k + 1)) _ _ (by omega) ⟨k + 1, by omega, rfl, rfl, fun j hj => ?_, fun a j ha => ?_⟩
    · rw [rd_ii]; by_cases q : j = k
      · subst q; rw [if_pos ⟨rfl, rfl⟩, i2 _ _ (by decide)]
      · rw [if_neg (by omega)]; exact i1 j (by omega)
    · rw [rd_ia _ _ _ _ _ _ ha]; exact i2 a j ha
theorem r_laysBack (ρ : mm_S) : wp (f_X10_laysBack 214 ρ) (fun υ => (∀ k, k < 31 → υ.1 224 (10 + k) = ρ.1 229 k) ∧ SO ρ υ ∧ ∀ a k, a ≠ 224 → υ.1 a k = ρ.1 a k) := by
  unfold f_X10_laysBack f_X10_laysBack_2
  refine wp_lp (fun m v τ => ∃ k, k ≤ 31 ∧ m = 31 - k ∧ v = Int32.ofNat k ∧ (∀ j, j < k → τ.1 224 (10 + j) = ρ.1 229 j) ∧ SO ρ τ ∧ ∀ a k, a ≠ 224 → τ.1 a k = ρ.1 a k) ?_ lpN 31 _ _ (by decide) ⟨0, by omega, by omega, rfl, fun j hj => by omega, fun _ _ => rfl, fun _ _ _ => rfl⟩
  rintro m rec v τ ⟨k, hk, rfl, rfl, i1, i3, i2⟩ hrec
  rw [show (31 : Int32) = Int32.ofNat 31 from rfl, show (10 : Int32) = Int32.ofNat 10 from rfl]
  simp (disch := omega) only [n_le]
  by_cases c : k = 31
  · subst c; simp only [Nat.le_refl, if_true, wp_some]; exact ⟨i1, i3, i2⟩
  · rw [if_neg (by omega)]
    simp (disch := omega) only [n_add, gd_n, n_idx, lt_eq, n_addI]
    refine hrec (31 - (k + 1)) _ _ (by omega) ⟨k + 1, by omega, rfl, rfl, fun j hj => ?_, fun j hj => ?_, fun a j ha => ?_⟩
    · rw [rd_ii]; by_cases q : j = k
      · subst q; rw [if_pos ⟨rfl, rfl⟩, i2 _ _ (by decide)]
      · rw [if_neg (by omega)]; exact i1 j (by omega)
    · rw [rd_ik _ _ _ _ _ _ (by omega)]; exact i3 j hj
    · rw [rd_ia _ _ _ _ _ _ ha]; exact i2 a j ha
def rT (c k : Nat) : Prop := rS c k ∧ c ≠ 224 ∧ ¬ (c = 214 ∧ 23 ≤ k ∧ k ≤ 25)
/-- the reference in the midst of an asking: its night is kept -/
def UK (ρ υ : mm_S) : Prop := (∀ k, k < 31 → υ.1 229 k = ρ.1 224 (10 + k)) ∧ SO ρ υ ∧ ag rT ρ υ
/-- as it was, but for what is not looked at -/
def US (ρ υ : mm_S) : Prop := (∀ k, υ.1 224 k = ρ.1 224 k) ∧ ag rT ρ υ ∧ υ.1 214 23 = -1 ∧ υ.1 214 24 = -1 ∧ υ.1 214 25 = 0
theorem US_refl {ρ : mm_S} (h : RQ ρ) : US ρ ρ := ⟨fun _ => rfl, ag_refl, h⟩
theorem UK_keeps {ρ : mm_S} (h : RQ ρ) : wp (f_X10_keeps 214 ρ) (fun υ => UK ρ υ ∧ US ρ υ) := by
  refine wp_mono (r_keeps ρ) ?_
  rintro υ ⟨h1, h2⟩
  have g : ag rT ρ υ := fun a k q => h2 a k (by unfold rT rS at q; omega)
  refine ⟨⟨h1, fun k _ => h2 _ _ (by decide), g⟩, fun k => h2 _ _ (by decide), g, ?_, ?_, ?_⟩
  · rw [h2 _ _ (by decide)]; exact h.1
  · rw [h2 _ _ (by decide)]; exact h.2.1
  · rw [h2 _ _ (by decide)]; exact h.2.2
theorem UK_pass {ρ υ : mm_S} {r : Int32 × mm_S} (h : UK ρ υ) (e : f_X10_passes 214 υ = some r) (s : SO υ r.2) : UK ρ r.2 := by
  obtain ⟨h1, h2, h3⟩ := h
  have F := fr_X10_passes (P := fun a k => a = 229 ∨ rT a k) (a0 := 214) (fun a k q => by unfold rT rS at q; omega) (ko_refl (σ := υ)) r e
  exact ⟨fun k hk => (F.1 _ _ (Or.inl rfl)).trans (h1 k hk), SO_trans h2 s, fun a k q => (F.1 a k (Or.inr q)).trans (h3 a k q)⟩
theorem UK_passAll {ρ υ ω : mm_S} {i : Int32} (h : UK ρ υ) (e : f_X10_passesAll 214 i υ = some ω) (s : SO υ ω) : UK ρ ω := by
  obtain ⟨h1, h2, h3⟩ := h
  have F := fr_X10_passesAll (P := fun a k => a = 229 ∨ rT a k) (a0 := 214) (fun a k q => by unfold rT rS at q; omega) (ko_refl (σ := υ)) ω e
  exact ⟨fun k hk => (F.1 _ _ (Or.inl rfl)).trans (h1 k hk), SO_trans h2 s, fun a k q => (F.1 a k (Or.inr q)).trans (h3 a k q)⟩
theorem UK_back {ρ υ : mm_S} (h : UK ρ υ) : wp (f_X10_laysBack 214 υ) (fun ω => (∀ k, ω.1 224 k = ρ.1 224 k) ∧ UK ρ ω ∧ ∀ a k, a ≠ 224 → ω.1 a k = υ.1 a k) := by
  obtain ⟨h1, h2, h3⟩ := h
  refine wp_mono (r_laysBack υ) ?_
  rintro ω ⟨g1, g2, g3⟩
  refine ⟨fun k => ?_, ⟨fun k hk => (g3 _ _ (by decide)).trans (h1 k hk), SO_trans h2 g2, fun a k q => (g3 a k (by unfold rT at q; omega)).trans (h3 a k q)⟩, g3⟩
  by_cases c : k < 10 ∨ 41 ≤ k
  · rw [g2 k c, h2 k c]
  · have := (g1 (k - 10) (by omega)).trans (h1 (k - 10) (by omega))
    rw [show 10 + (k - 10) = k by omega] at this; exact this
/-- an asking is over -/
theorem RY_back {r n h m : Nat} {σ τ ρ υ : mm_S} (H : RY r n h m σ ρ) (g : ag cS σ τ) (u : US ρ υ) : RY r n h m τ υ := by
  obtain ⟨u1, u2, u3, u4, u5⟩ := u
  have hq := H.2.1
  refine RY_keep H g (fun a k q => ?_)
  by_cases c : a = 224
  · subst c; exact u1 k
  · by_cases d : a = 214 ∧ 23 ≤ k ∧ k ≤ 25
    · obtain ⟨rfl, d1, d2⟩ := d
      rcases (by omega : k = 23 ∨ k = 24 ∨ k = 25) with rfl | rfl | rfl
      · exact u3.trans hq.1.symm
      · exact u4.trans hq.2.1.symm
      · exact u5.trans hq.2.2.symm
    · exact u2 a k ⟨q, c, d⟩
theorem bt0 : ∀ l, l < 6 → bt 0 l = 0 := by decide +kernel
/-- what a walk by rule w from the world's night begins with -/
theorem x_begin {n h b w : Nat} {σ : mm_S} (hb : b + 4 < 201 ∨ b = 201) (hj : nj n h h σ b) : wp (f_X7_begin 200 w b σ) (fun τ => nj n h h τ 201 ∧ (∀ ρ c o, nx σ b ρ c o → nx τ 201 ρ c o) ∧ τ.2.2 = w ∧ τ.1 200 3 = σ.1 27 2 ∧ τ.1 200 4 = -1 ∧ τ.1 200 5 = -1 ∧ (∀ k, k < 6 → τ.1 206 k = -1)) := by
  unfold f_X7_begin
  rw [lt_eq, wp_bv]
  refine wp_mono (x_take (a := 201) (b := b) (su_w σ w) (by omega)) ?_
  rintro σ16 ⟨⟨t0, t1, t2⟩, t3, t4⟩
  simp only [lt_eq]
  rw [wp_bv]
  refine wp_mono (x_fill (a := 206) (-1) _ (by decide +kernel)) ?_
  rintro τ ⟨f1, f2, f3⟩
  rw [wp_some]
  have f1' : ∀ k, k < 6 → τ.1 206 k = -1 := fun k hk => f1 k (by rw [show (mm_K 206).2 = 6 by decide +kernel]; exact hk)
  have z : ∀ c k, c ≠ 206 → c ≠ 200 → τ.1 c k = σ16.1 c k := fun c k h1 h2 => by
    rw [f2 c k h1, rd_ia _ _ _ _ _ _ h2, rd_ia _ _ _ _ _ _ h2, rd_ia _ _ _ _ _ _ h2]
  have a0 : τ.1 201 0 = σ.1 b 0 := by rw [z _ _ (by decide) (by decide)]; exact t0
  have a1 : τ.1 201 1 = σ.1 b 1 := by rw [z _ _ (by decide) (by decide)]; exact t1
  have a2 : ∀ c, 1 ≤ c → c ≤ 4 → ∀ k, k < 6 → τ.1 (201 + c) k = σ.1 (b + c) k := fun c h1 h2 k hk => by rw [z _ _ (by omega) (by omega)]; exact t2 c h1 h2 k hk
  refine ⟨nj_take hj a0 a1 a2, fun ρ c o H => nx_take H a0 a1 a2, ?_, ?_, ?_, ?_, f1'⟩
  · rw [f3]; show σ16.2.2 = w; rw [t4]; rfl
  · rw [f2 _ _ (by decide), rd_ik _ _ _ _ _ _ (by decide), rd_ik _ _ _ _ _ _ (by decide), rd_is, t3 _ _ (by omega)]; rfl
  · rw [f2 _ _ (by decide), rd_ik _ _ _ _ _ _ (by decide), rd_is]
  · rw [f2 _ _ (by decide), rd_is]
theorem HH_of {r n h m : Nat} {σ τ ρ υ : mm_S} (H : RY r n h m σ ρ) (u : US ρ υ) (g : ag cS σ τ) (k1 : τ.1 200 3 = σ.1 27 2) (k2 : τ.1 200 4 = -1) (k3 : τ.1 200 5 = -1) (k4 : ∀ k, k < 6 → τ.1 206 k = -1)
    (kr : (υ.1 214 21 = -1 ∧ τ.2.2 = 12) ∨ ∃ k, k < r ∧ υ.1 214 21 = Int32.ofNat k ∧ τ.2.2 = 14 + 2 * k) : HP n τ υ ∧ HS n τ υ := by
  obtain ⟨u1, u2, u3, u4, u5⟩ := u
  obtain ⟨-, -, ⟨r1, r2, r3, ⟨r4, r5, r6⟩, r7⟩, ⟨⟨hh, hX⟩, -⟩, -⟩ := id H
  obtain ⟨x0, x1, x2, x3, x4, x5, x6⟩ := hX
  obtain ⟨i0, i1, i2, i3, i4, -⟩ := hh
  have c27 : ∀ k, τ.1 27 k = σ.1 27 k := fun k => g _ _ (by unfold cS; omega)
  have c30 : ∀ k, τ.1 30 k = σ.1 30 k := fun k => g _ _ (by unfold cS; omega)
  refine ⟨⟨⟨i0, by rw [c27]; exact i4, by rw [u1, x3]; exact i4⟩, ⟨by rw [c27]; exact i2, by rw [c27, u1]; exact x1⟩, ⟨by rw [k1]; exact i3, by rw [k1, u1]; exact x2⟩, by rw [c27, u1]; exact x4,
    fun k hk => by rw [c30, u1]; have := x6 k hk; rw [show 0 + 53 + k = 53 + k by omega] at this; exact this, ⟨Or.inl k2, u3.trans k2.symm⟩, fun l hl => Or.inl ⟨by rw [u5]; exact bt0 l (by omega), k4 l (by omega)⟩, ?_⟩, u4.trans k3.symm, Or.inl k3⟩
  rcases kr with ⟨q1, q2⟩ | ⟨k, hk, q1, q2⟩
  · exact Or.inl ⟨q1, q2, by rw [g _ _ (by unfold cS; omega)]; exact r4, by rw [g _ _ (by unfold cS; omega)]; exact r5, by rw [g _ _ (by unfold cS; omega)]; exact r6⟩
  · exact Or.inr ⟨k, by omega, q1, q2, EV_keep (by omega) (r7 k hk) (ag_mono g (by intro c k; unfold cS; omega)) (ag_mono u2 (by intro c k; unfold rT rS; omega))⟩
theorem HH_start {r n h m : Nat} {σ τ ρ υ : mm_S} (H : RY r n h m σ ρ) (g : ag cS σ τ) (u : US ρ υ) : wp (f_X9_walkFromNow 0 τ) (fun τ' => HH n h τ' υ ∧ ag cS σ τ') := by
  have F := fun τ' => fr_X9_walkFromNow (P := cS) (a0 := 0) (fun a k q => by unfold cS at q; omega) (ko_refl (σ := τ)) τ'
  obtain ⟨-, -, -, ⟨-, ⟨-, hj, hx⟩, -, ⟨w4, w5⟩, -⟩, -⟩ := id H
  have e3 : τ.1 26 3 = σ.1 26 3 := g _ _ (by unfold cS; omega)
  have hj' : nj n h h τ 31 := nj_keep hj (ag_mono g (by intro c k; unfold cS; omega))
  have ef : υ.1 214 21 = σ.1 26 3 := by rw [u.2.1 _ _ (by unfold rT rS; omega)]; exact w4
  have main : ∀ w, ((υ.1 214 21 = -1 ∧ w = 12) ∨ ∃ k, k < r ∧ υ.1 214 21 = Int32.ofNat k ∧ w = 14 + 2 * k) → f_X9_walkFromNow 0 τ = f_X7_begin 200 w 31 τ → wp (f_X9_walkFromNow 0 τ) (fun τ' => HH n h τ' υ ∧ ag cS σ τ') := by
    intro w hw e
    have B := x_begin (w := w) (b := 31) (Or.inl (by omega)) hj'
    obtain ⟨τ', et, b1, b2, b3, b4, b5, b6, b7⟩ := B
    have et' := e.trans et
    have g' : ag cS σ τ' := fun a k q => ((F τ' et').1 a k q).trans (g a k q)
    refine ⟨τ', et', ?_, g'⟩
    have A := HH_of (τ := τ') H u g' (b4.trans (g _ _ (by unfold cS; omega))) b5 b6 b7 (hw.elim (fun q => Or.inl ⟨q.1, b3.trans q.2⟩) (fun ⟨k, q1, q2, q3⟩ => Or.inr ⟨k, q1, q2, b3.trans q3⟩))
    exact ⟨A.1, A.2, b1, b2 _ _ _ (nx_ref (nx_keep hx (ag_mono g (by intro c k; unfold cS; omega)) ag_refl) (fun k hk => u.1 _))⟩
  unfold f_X9_walkFromNow at *
  rcases w5 with w5 | ⟨f, hf, w5⟩
  · refine main 12 (Or.inl ⟨ef.trans w5, rfl⟩) ?_
    rw [e3, w5, show (-1 : Int32) + 1 = Int32.ofNat 0 from by decide, gd_n (by omega) (by omega), n_idx (by omega)]
    show bv (f_X7_begin 200 12 31 τ) _ = _
    cases f_X7_begin 200 12 31 τ <;> rfl
  · refine main (14 + 2 * f) (Or.inr ⟨f, hf, ef.trans w5, rfl⟩) ?_
    have hr6 : r ≤ 6 := H.2.2.1.1
    rw [e3, w5, show Int32.ofNat f + (1 : Int32) = Int32.ofNat (f + 1) from n_add f 1, gd_n (by omega) (by omega), n_idx (by omega), show 12 + 2 * (f + 1) = 14 + 2 * f by omega]
    show bv (f_X7_begin 200 (14 + 2 * f) 31 τ) _ = _
    cases f_X7_begin 200 (14 + 2 * f) 31 τ <;> rfl
/-! hours -/
theorem x_pass1 {σ : mm_S} {Q : mm_S → Prop} (H : PH σ Q) : wp (f_X7_passHours 200 1 σ) Q := by
  unfold f_X7_passHours f_X7_passHours_2
  refine wp_lp (fun m v τ => (m = 1 ∧ v = 0 ∧ τ = σ) ∨ (m = 0 ∧ v = 1 ∧ Q τ)) ?_ lpN 1 _ _ (by decide) (Or.inl ⟨rfl, rfl, rfl⟩)
  rintro m rec v τ (⟨rfl, rfl, rfl⟩ | ⟨rfl, rfl, q⟩) hrec
  · rw [if_neg (by decide)]
    obtain ⟨a, ea, b, eb, c, ec, d, ed, q⟩ := H
    rw [ea, bv_s, eb, bv_s, ec, bv_s, ed, bv_s, lt_eq, lt_eq]
    exact hrec 0 _ _ (by omega) (Or.inr ⟨rfl, rfl, q⟩)
  · rw [if_pos (by decide), wp_some]; exact q
theorem h_pass1 {n h : Nat} {σ ρ : mm_S} (H : HH n h σ ρ) : wp (f_X7_passHours 200 1 σ) (fun τ => wp (f_X10_passes 214 ρ) (fun r => HP n τ r.2 ∧ ni n (h + 1) τ 201 ∧ nx τ 201 r.2 224 10 ∧ SO ρ r.2 ∧ r.1 = τ.1 201 1 ∧ r.2.1 214 24 = -1 ∧ τ.1 200 5 = σ.1 200 5 ∧ MS 1 σ τ)) := x_pass1 (h_one H)
/-- without strangers it goes on -/
theorem h_pass {n h : Nat} {σ ρ : mm_S} (H : HH n h σ ρ) (h5 : σ.1 200 5 = -1) : wp (f_X7_passHours 200 1 σ) (fun τ => wp (f_X10_passes 214 ρ) (fun r => HH n (h + 1) τ r.2 ∧ τ.1 200 5 = -1 ∧ SO ρ r.2 ∧ r.1 = τ.1 201 1)) := by
  refine wp_mono (h_pass1 H) (fun τ q => wp_mono q (fun r p => ?_))
  obtain ⟨p1, p2, p3, p4, p5, p6, p7, -⟩ := p
  exact ⟨⟨p1, ⟨by rw [p6, p7, h5], Or.inl (p7.trans h5)⟩, p2, p3⟩, p7.trans h5, p4, p5⟩
theorem h_many {n h N : Nat} {σ ρ : mm_S} (H : HH n h σ ρ) (h5 : σ.1 200 5 = -1) (hN : N ≤ 1000) : wp (f_X7_passHours 200 (Int32.ofNat N) σ) (fun τ => wp (f_X10_passesAll 214 (Int32.ofNat N) ρ) (fun υ => HH n (h + N) τ υ ∧ τ.1 200 5 = -1 ∧ SO ρ υ ∧ MS N σ τ)) := by
  unfold f_X7_passHours f_X7_passHours_2 f_X10_passesAll f_X10_passesAll_2
  refine wp_lp2 (fun m v σ' w ρ' => ∃ k, k ≤ N ∧ m = N - k ∧ v = Int32.ofNat k ∧ w = Int32.ofNat k ∧ HH n (h + k) σ' ρ' ∧ σ'.1 200 5 = -1 ∧ SO ρ ρ' ∧ MS k σ σ') ?_ lpN N _ _ _ _ (Nat.lt_of_le_of_lt hN (by decide)) ⟨0, by omega, by omega, rfl, rfl, H, h5, fun _ _ => rfl, fun _ _ => ⟨0, by omega, (Int32.add_zero _).symm⟩⟩
  rintro m rec rec' v σ' w ρ' ⟨k, hk, rfl, rfl, rfl, H', h5', so, ms⟩ hrec
  simp (disch := omega) only [n_le]
  by_cases c : k = N
  · subst c; simp only [Nat.le_refl, if_true, wp_some]; exact ⟨H', h5', so, ms⟩
  · simp only [show ¬ (N ≤ k) by omega, if_false]
    obtain ⟨a, ea, b, eb, c, ec, d, ed, r, er, p1, p2, p3, p4, p5, p6, p7, p8⟩ := h_one H'
    rw [ea, bv_s, eb, bv_s, ec, bv_s, ed, bv_s, lt_eq, lt_eq, er, show r = (r.1, r.2) from rfl, bd_s, lt_eq, n_addI]
    refine hrec (N - (k + 1)) _ _ _ _ (by omega) ⟨k + 1, by omega, rfl, rfl, rfl, ⟨p1, ⟨by rw [p6, p7, h5'], Or.inl (p7.trans h5')⟩, p2, p3⟩, p7.trans h5', SO_trans so p4, fun j hj => ?_⟩
    obtain ⟨x, x1, x2⟩ := ms j hj
    obtain ⟨y, y1, y2⟩ := p8 j hj
    exact ⟨x + y, by omega, by rw [y2, x2, Int32.add_assoc, n_add]⟩
/-! ahead, stays, sleeps, rested -/
theorem rng_a {α : Type} {j a b : Int32} {A B : α} (c : j < a ∨ b < j) : (if j < a then A else if b < j then A else B) = A := by
  by_cases d : j < a
  · rw [if_pos d]
  · rw [if_neg d, if_pos (c.resolve_left d)]
theorem rng_b {α : Type} {j a b : Int32} {A B : α} (c : j < a ∨ b < j) : (if j < a then A else if j ≤ b then B else A) = A := by
  by_cases d : j < a
  · rw [if_pos d]
  · rw [if_neg d, if_neg (by rw [Int32.not_le]; exact c.resolve_left d)]
theorem rng_c {α : Type} {w a b : Nat} {A B : α} (hb : b < 2147483648) (h1 : a ≤ w) (h2 : w ≤ b) : (if Int32.ofNat w < Int32.ofNat a then A else if Int32.ofNat b < Int32.ofNat w then A else B) = B := by
  rw [if_neg (by rw [n_lt (by omega) (by omega)]; omega), if_neg (by rw [n_lt (by omega) (by omega)]; omega)]
theorem rng_d {α : Type} {w a b : Nat} {A B : α} (hb : b < 2147483648) (h1 : a ≤ w) (h2 : w ≤ b) : (if Int32.ofNat w < Int32.ofNat a then A else if Int32.ofNat w ≤ Int32.ofNat b then B else A) = B := by
  rw [if_neg (by rw [n_lt (by omega) (by omega)]; omega), if_pos (by rw [n_le (by omega) (by omega)]; omega)]
theorem cS_pass {i : Int32} {σ τ ω : mm_S} (g : ag cS σ τ) (e : f_X7_passHours 200 i τ = some ω) : ag cS σ ω := by
  have F := fr_X7_passHours (P := cS) (a0 := 200) (i1 := i) (fun a k q => by unfold cS at q; omega) (ko_refl (σ := τ)) ω e
  exact fun a k q => (F.1 a k q).trans (g a k q)
def UB (υ : mm_S) : Prop := υ.1 214 23 = -1 ∧ υ.1 214 25 = 0
theorem UB_pass {υ : mm_S} {r : Int32 × mm_S} (h : UB υ) (e : f_X10_passes 214 υ = some r) : UB r.2 := by
  have F := fr_X10_passes (P := fun a k => a = 214 ∧ (k = 23 ∨ k = 25)) (a0 := 214) (fun a k q => by omega) (ko_refl (σ := υ)) r e
  exact ⟨(F.1 _ _ (by omega)).trans h.1, (F.1 _ _ (by omega)).trans h.2⟩
theorem UB_passAll {υ ω : mm_S} {i : Int32} (h : UB υ) (e : f_X10_passesAll 214 i υ = some ω) : UB ω := by
  have F := fr_X10_passesAll (P := fun a k => a = 214 ∧ (k = 23 ∨ k = 25)) (a0 := 214) (fun a k q => by omega) (ko_refl (σ := υ)) ω e
  exact ⟨(F.1 _ _ (by omega)).trans h.1, (F.1 _ _ (by omega)).trans h.2⟩
theorem US_UB {ρ υ : mm_S} (h : US ρ υ) : UB υ := ⟨h.2.2.1, h.2.2.2.2⟩
/-- laid back: as it was -/
theorem US_back {ρ υ : mm_S} (uk : UK ρ υ) (ub : UB υ) (h24 : υ.1 214 24 = -1) : wp (f_X10_laysBack 214 υ) (fun ω => US ρ ω ∧ UK ρ ω) := by
  refine wp_mono (UK_back uk) ?_
  rintro ω ⟨b1, b2, b3⟩
  exact ⟨⟨b1, b2.2.2, (b3 _ _ (by decide)).trans ub.1, (b3 _ _ (by decide)).trans h24, (b3 _ _ (by decide)).trans ub.2⟩, b2⟩
theorem HH_24 {n h : Nat} {σ ρ : mm_S} (H : HH n h σ ρ) (h5 : σ.1 200 5 = -1) : ρ.1 214 24 = -1 := H.2.1.1.trans h5
theorem HH_5 {r n h m : Nat} {σ τ ρ υ : mm_S} (H : RY r n h m σ ρ) (g : ag cS σ τ) (u : US ρ υ) : wp (f_X9_walkFromNow 0 τ) (fun τ' => HH n h τ' υ ∧ ag cS σ τ' ∧ τ'.1 200 5 = -1) := by
  refine wp_mono (HH_start H g u) ?_
  rintro τ' ⟨a, b⟩
  exact ⟨a, b, a.2.1.1.symm.trans u.2.2.2.1⟩
theorem RY_hs {r n h m : Nat} {σ ρ : mm_S} (H : RY r n h m σ ρ) : (σ.1 27 0 = 0 ∧ ρ.1 224 0 = 0) ∨ (σ.1 27 0 = 1 ∧ ρ.1 224 0 = 1) := by
  obtain ⟨-, -, -, ⟨⟨⟨-, i1, -⟩, ⟨x0, -⟩⟩, -⟩, -⟩ := H
  rcases i1 with i1 | i1
  · exact Or.inl ⟨i1, x0.trans i1⟩
  · exact Or.inr ⟨i1, x0.trans i1⟩
theorem r_isHouse0 {ρ : mm_S} (h : ρ.1 224 0 = 0) : f_X10_isHouse 214 ρ = some (0, ρ) := by
  unfold f_X10_isHouse
  rw [show (0 : Int32) = Int32.ofNat 0 from rfl, gd_n (by omega) (by omega), n_idx (by omega), h, if_neg (by decide)]
theorem r_isHouse1 {ρ : mm_S} (h : ρ.1 224 0 = 1) : f_X10_isHouse 214 ρ = some (1, ρ) := by
  unfold f_X10_isHouse
  rw [show (0 : Int32) = Int32.ofNat 0 from rfl, gd_n (by omega) (by omega), n_idx (by omega), h, if_pos rfl]
theorem m_ahead (i j k : Int32) : RM (f_X9_ahead 0 i j k) (f_X10_ahead 214 i j k) := by
  intro σ ρ H
  obtain ⟨r, n, h, m, Y⟩ := id H
  obtain ⟨hn, e1, e2⟩ := RY_n Y
  unfold f_X9_ahead f_X10_ahead
  rcases isl_cases (n := n) (by omega) i with ⟨l, hl, rfl⟩ | c
  · rw [x_isl1 e1 hn hl, r_isl1 e2 hn hl, bd_s, bd_s, if_neg (show ¬ ((1 : Int32) = 0) by decide), if_neg (show ¬ ((1 : Int32) = 0) by decide)]
    rcases in_cases 0 100 (by omega) (by omega) j with ⟨N, _, hN, rfl⟩ | c
    · rw [r_in1 (a := 0) (b := 100) (by omega) (by omega) hN, bd_s, if_neg (show ¬ ((1 : Int32) = 0) by decide)]
      rw [show (0 : Int32) = Int32.ofNat 0 from rfl, show (100 : Int32) = Int32.ofNat 100 from rfl, show (2 : Int32) = Int32.ofNat 2 from rfl, show (1 : Int32) = Int32.ofNat 1 from rfl, rng_c (by omega) (by omega) hN]
      rcases in_cases 0 2 (by omega) (by omega) k with ⟨w, _, hw, rfl⟩ | c
      · rw [r_in1 (a := 0) (b := 2) (by omega) (by omega) hw, bd_s, rng_d (by omega) (by omega) hw, if_neg (show ¬ ((1 : Int32) = Int32.ofNat 0) by decide)]
        obtain ⟨υ, eυ, uk, us⟩ := UK_keeps Y.2.1
        obtain ⟨τ, eτ, H1, g1, h5⟩ := HH_5 Y ag_refl us
        obtain ⟨τ2, f1, υ2, f2, H2, h52, so, -⟩ := h_many (N := N) H1 h5 (by omega)
        have g2 := cS_pass g1 f1
        obtain ⟨ω, eω, us2, -⟩ := US_back (UK_passAll uk f2 so) (UB_passAll (US_UB us) f2) (HH_24 H2 h52)
        rw [eτ, bv_s, f1, bv_s, eυ, bv_s, f2, bv_s]
        have fin : RZ τ2 ω := ⟨r, n, h, m, RY_back Y g2 us2⟩
        have hx := (H2.2.2.2.2 l (by omega))
        rcases (by omega : w = 0 ∨ w = 1 ∨ w = 2) with rfl | rfl | rfl
        · rw [r_tiredOf _ (by omega)]
          simp (disch := omega) only [n_lit, gd_n, n_idx, n_mul, n_add, n_addI, n_lt, n_le, n_eq, n_sub, lt_eq, bd_s, bv_s, wp_some, if_true, if_false, reduceIte, Nat.reduceEqDiff, Nat.reduceLeDiff, Nat.reduceAdd, Nat.reduceMul, Nat.reduceSub, reduceCtorEq, not_false_eq_true, not_true_eq_false, eω]
          exact ⟨by rw [show 11 + 5 * l = 10 + 1 + 5 * l by omega]; exact hx.1.symm, fin⟩
        · rw [r_penceOf _ (by omega)]
          simp (disch := omega) only [n_lit, gd_n, n_idx, n_mul, n_add, n_addI, n_lt, n_le, n_eq, n_sub, lt_eq, bd_s, bv_s, wp_some, if_true, if_false, reduceIte, Nat.reduceEqDiff, Nat.reduceLeDiff, Nat.reduceAdd, Nat.reduceMul, Nat.reduceSub, reduceCtorEq, not_false_eq_true, not_true_eq_false, eω]
          exact ⟨by rw [show 11 + 5 * l + 1 = 10 + 2 + 5 * l by omega]; exact hx.2.1.symm, fin⟩
        · rw [r_sleptBy _ (by omega)]
          simp (disch := omega) only [n_lit, gd_n, n_idx, n_mul, n_add, n_addI, n_lt, n_le, n_eq, n_sub, lt_eq, bd_s, bv_s, wp_some, if_true, if_false, reduceIte, Nat.reduceEqDiff, Nat.reduceLeDiff, Nat.reduceAdd, Nat.reduceMul, Nat.reduceSub, reduceCtorEq, not_false_eq_true, not_true_eq_false, eω]
          exact ⟨by rw [show 11 + 5 * l + 4 = 10 + 5 + 5 * l by omega]; exact hx.2.2.2.2.symm, fin⟩
      · rw [r_in0 (a := 0) (b := 2) (by omega) (by omega) c, bd_s, rng_b c, wp_some, if_pos (by decide), wp_some]; exact ⟨rfl, H⟩
    · rw [r_in0 (a := 0) (b := 100) (by omega) (by omega) c, bd_s, if_pos rfl]
      rw [show (0 : Int32) = Int32.ofNat 0 from rfl, show (100 : Int32) = Int32.ofNat 100 from rfl, rng_a c, wp_some, wp_some]; exact ⟨rfl, H⟩
  · rw [x_isl0 e1 c, bd_s, r_isl0 e2 c, bd_s, if_pos rfl, if_pos rfl, wp_some, wp_some]; exact ⟨rfl, H⟩
/-! hours one after another -/
def HC (n h : Nat) (σ ρ τ υ : mm_S) : Prop := HH n h τ υ ∧ τ.1 200 5 = -1 ∧ UK ρ υ ∧ UB υ ∧ ag cS σ τ
def CH (n h : Nat) (σ ρ : mm_S) (N : Nat) (T U : Nat → mm_S) : Prop := (∀ k, k ≤ N → HC n (h + k) σ ρ (T k) (U k)) ∧ ∀ k, k < N → f_X7_passHours 200 1 (T k) = some (T (k + 1)) ∧ f_X10_passes 214 (U k) = some ((T (k + 1)).1 201 1, U (k + 1))
theorem h_chain {n h : Nat} {σ ρ τ υ : mm_S} (H : HC n h σ ρ τ υ) : ∀ N, ∃ T U : Nat → mm_S, T 0 = τ ∧ U 0 = υ ∧ CH n h σ ρ N T U := by
  intro N
  induction N with
  | zero => exact ⟨fun _ => τ, fun _ => υ, rfl, rfl, fun k hk => by rw [show k = 0 by omega]; exact H, fun k hk => by omega⟩
  | succ N ih =>
    obtain ⟨T, U, t0, u0, c1, c2⟩ := ih
    obtain ⟨a1, a2, a3, a4, a5⟩ := c1 N (by omega)
    obtain ⟨τ', et, r, er, b1, b2, b3, b4⟩ := h_pass a1 a2
    refine ⟨fun k => if k ≤ N then T k else τ', fun k => if k ≤ N then U k else r.2, by simp only [Nat.zero_le, if_true]; exact t0, by simp only [Nat.zero_le, if_true]; exact u0, fun k hk => ?_, fun k hk => ?_⟩
    · by_cases c : k ≤ N
      · simp only [c, if_true]; exact c1 k c
      · simp only [c, if_false]
        rw [show k = N + 1 by omega]
        exact ⟨b1, b2, UK_pass a3 er b3, UB_pass a4 er, cS_pass a5 et⟩
    · by_cases c : k < N
      · simp only [show k ≤ N by omega, show k + 1 ≤ N by omega, if_true]; exact c2 k c
      · have : k = N := by omega
        subst this
        simp only [Nat.le_refl, show ¬ (k + 1 ≤ k) by omega, if_true, if_false]
        exact ⟨et, by rw [er, ← b4]⟩
theorem HC_start {r n h m : Nat} {σ ρ : mm_S} (Y : RY r n h m σ ρ) : ∃ τ υ, f_X9_walkFromNow 0 σ = some τ ∧ f_X10_keeps 214 ρ = some υ ∧ HC n h σ ρ τ υ ∧ US ρ υ := by
  obtain ⟨υ, eυ, uk, us⟩ := UK_keeps Y.2.1
  obtain ⟨τ, eτ, H1, g1, h5⟩ := HH_5 Y ag_refl us
  exact ⟨τ, υ, eτ, eυ, ⟨H1, h5, uk, US_UB us, g1⟩, us⟩
theorem HC_back {r n h h' m : Nat} {σ ρ τ υ : mm_S} (Y : RY r n h m σ ρ) (C : HC n h' σ ρ τ υ) : wp (f_X10_laysBack 214 υ) (fun ω => RZ τ ω ∧ US ρ ω ∧ UK ρ ω) := by
  obtain ⟨c1, c2, c3, c4, c5⟩ := C
  refine wp_mono (US_back c3 c4 (HH_24 c1 c2)) ?_
  rintro ω ⟨a, b⟩
  exact ⟨⟨r, n, h, m, RY_back Y c5 a⟩, a, b⟩
theorem HC_many {n h N : Nat} {σ ρ τ υ : mm_S} (C : HC n h σ ρ τ υ) (hN : N ≤ 1000) : ∃ τ' υ', f_X7_passHours 200 (Int32.ofNat N) τ = some τ' ∧ f_X10_passesAll 214 (Int32.ofNat N) υ = some υ' ∧ HC n (h + N) σ ρ τ' υ' ∧ MS N τ τ' := by
  obtain ⟨c1, c2, c3, c4, c5⟩ := C
  obtain ⟨τ', e1, υ', e2, H, h5, so, ms⟩ := h_many (N := N) c1 c2 hN
  exact ⟨τ', υ', e1, e2, ⟨H, h5, UK_passAll c3 e2 so, UB_passAll c4 e2, cS_pass c5 e1⟩, ms⟩
theorem HC_in {n h : Nat} {σ ρ τ υ : mm_S} (C : HC n h σ ρ τ υ) : f_X10_inside 214 υ = some (τ.1 201 1, υ) := by
  obtain ⟨⟨hp, -, ⟨-, ⟨i, hi, ei⟩, -⟩, hx⟩, -⟩ := C
  rw [r_inside (n := n) (i := i) υ hp.1.2.2 hp.1.1 hi (fun l hl => ?_), ei]
  have hn := hp.1.1
  rw [show 11 + 5 * l + 2 = 10 + 3 + 5 * l by omega, (hx.2 l (by omega)).2.2.1, ei]
theorem m_stays (i : Int32) : RM (f_X9_stays 0 i) (f_X10_stays 214 i) := by
  intro σ ρ H
  obtain ⟨r, n, h, m, Y⟩ := id H
  unfold f_X9_stays f_X10_stays
  rcases RY_hs Y with ⟨s1, s2⟩ | ⟨s1, s2⟩
  · rw [show σ.1 (26 + 1) 0 = 0 from s1, if_pos rfl, r_isHouse0 s2, bd_s, if_pos rfl, wp_some, wp_some]; exact ⟨rfl, H⟩
  · rw [show σ.1 (26 + 1) 0 = 1 from s1, if_neg (show ¬ ((1 : Int32) = 0) by decide), r_isHouse1 s2, bd_s, if_neg (show ¬ ((1 : Int32) = 0) by decide)]
    rcases in_cases 0 60 (by omega) (by omega) i with ⟨N, _, hN, rfl⟩ | c
    · rw [r_in1 (a := 0) (b := 60) (by omega) (by omega) hN, bd_s, if_neg (show ¬ ((1 : Int32) = 0) by decide)]
      rw [show (0 : Int32) = Int32.ofNat 0 from rfl, show (60 : Int32) = Int32.ofNat 60 from rfl, rng_d (by omega) (by omega) hN]
      obtain ⟨τ, υ, eτ, eυ, C0, -⟩ := HC_start Y
      obtain ⟨τ1, υ1, e1, e1', C1, -⟩ := HC_many (N := N) C0 (by omega)
      obtain ⟨T, U, rfl, rfl, D1, D2⟩ := h_chain C1 2
      rw [eτ, bv_s, e1, bv_s, eυ, bv_s, e1', bv_s, HC_in C1, bd_s, (D2 0 (by omega)).2, bd_s, lt_eq, lt_eq, (D2 1 (by omega)).2, bd_s, lt_eq]
      obtain ⟨ω, eω, fin, -⟩ := HC_back Y (D1 2 (by omega))
      rw [eω, bv_s]
      unfold f_X9_stays_50
      have g : wp (lp lpN (fun (k50 : (Int32 × Int32) → mm_S → Option (Int32 × mm_S)) (v : Int32 × Int32) (σ : mm_S) =>
          if (2 : Int32) ≤ v.2 then some (v.1, σ)
          else bv (f_X7_passHours 200 (1 : Int32) σ) fun σ3 => lt ((v.1 &&& (σ3.1 201 1))) fun x4 => lt (v.2 + Int32.ofInt (1)) fun x6 => k50 (x4, x6) σ3) ((T 0).1 201 1, Int32.ofNat 0) (T 0)) (fun q => q = ((T 0).1 201 1 &&& (T 1).1 201 1 &&& (T 2).1 201 1, T 2)) := by
        refine wp_lp (fun m v τ => (m = 2 ∧ v = ((T 0).1 201 1, 0) ∧ τ = T 0) ∨ (m = 1 ∧ v = ((T 0).1 201 1 &&& (T 1).1 201 1, 1) ∧ τ = T 1) ∨ (m = 0 ∧ v = ((T 0).1 201 1 &&& (T 1).1 201 1 &&& (T 2).1 201 1, 2) ∧ τ = T 2)) ?_ lpN 2 _ _ (by decide) (Or.inl ⟨rfl, rfl, rfl⟩)
        rintro m rec v τ (⟨rfl, rfl, rfl⟩ | ⟨rfl, rfl, rfl⟩ | ⟨rfl, rfl, rfl⟩) hrec
        · rw [if_neg (show ¬ ((2 : Int32) ≤ 0) by decide), (D2 0 (by omega)).1, bv_s, lt_eq, lt_eq]; exact hrec 1 _ _ (by omega) (Or.inr (Or.inl ⟨rfl, rfl, rfl⟩))
        · rw [if_neg (show ¬ ((2 : Int32) ≤ 1) by decide), (D2 1 (by omega)).1, bv_s, lt_eq, lt_eq]; exact hrec 0 _ _ (by omega) (Or.inr (Or.inr ⟨rfl, rfl, rfl⟩))
        · rw [if_pos (show ((2 : Int32) ≤ 2) by decide), wp_some]
      rw [wp_eq g, wp_some, wp_some]
      exact ⟨rfl, fin⟩
    · rw [r_in0 (a := 0) (b := 60) (by omega) (by omega) c, bd_s, if_pos rfl]
      rw [show (0 : Int32) = Int32.ofNat 0 from rfl, show (60 : Int32) = Int32.ofNat 60 from rfl, rng_b c, wp_some, wp_some]; exact ⟨rfl, H⟩
theorem le_not {a b : Int32} : (a ≤ b) = ¬ (b < a) := propext (by rw [Int32.not_lt])
theorem m_sleeps (i j : Int32) : RM (f_X9_sleeps 0 i j) (f_X10_sleeps 214 i j) := by
  intro σ ρ H
  obtain ⟨r, n, h, m, Y⟩ := id H
  obtain ⟨hn, y1, y2⟩ := RY_n Y
  unfold f_X9_sleeps f_X10_sleeps
  rcases RY_hs Y with ⟨s1, s2⟩ | ⟨s1, s2⟩
  · rw [show σ.1 (26 + 1) 0 = 0 from s1, if_pos rfl, r_isHouse0 s2, bd_s, if_pos rfl, wp_some, wp_some]; exact ⟨rfl, H⟩
  · rw [show σ.1 (26 + 1) 0 = 1 from s1, if_neg (show ¬ ((1 : Int32) = 0) by decide), r_isHouse1 s2, bd_s, if_neg (show ¬ ((1 : Int32) = 0) by decide)]
    rcases in_cases 1 100 (by omega) (by omega) i with ⟨N, hN0, hN, rfl⟩ | c
    · rw [r_in1 (a := 1) (b := 100) (by omega) (by omega) hN, bd_s, if_neg (show ¬ ((1 : Int32) = 0) by decide)]
      rw [show (0 : Int32) = Int32.ofNat 0 from rfl, show (1 : Int32) = Int32.ofNat 1 from rfl, show (100 : Int32) = Int32.ofNat 100 from rfl, rng_c (by omega) hN0 hN]
      rcases in_cases 0 1 (by omega) (by omega) j with ⟨w, _, hw, rfl⟩ | c
      · rw [r_in1 (a := 0) (b := 1) (by omega) (by omega) hw, bd_s, rng_d (by omega) (by omega) hw, if_neg (show ¬ ((1 : Int32) = Int32.ofNat 0) by decide)]
        obtain ⟨τ, υ, eτ, eυ, C0, -⟩ := HC_start Y
        obtain ⟨τ1, υ1, e1, e1', C1, -⟩ := HC_many (N := N) C0 (by omega)
        rw [eτ, bv_s, e1, bv_s, eυ, bv_s, e1', bv_s]
        obtain ⟨ω, eω, fin, -⟩ := HC_back Y C1
        obtain ⟨⟨hp, -, -, hx⟩, -, uk, -, g⟩ := id C1
        have n1 : τ1.1 27 3 = Int32.ofNat n := (g _ _ (by unfold cS; omega)).trans y1
        have kv : ∀ l, l < n → υ1.1 229 (5 + 5 * l) = τ1.1 35 l := fun l hl => by
          rw [uk.1 _ (by omega), g 35 l (by unfold cS; omega), show 10 + (5 + 5 * l) = 0 + 10 + 5 + 5 * l by omega]
          exact (Y.2.2.2.1.2.1.2.2.2 l (by omega)).2.2.2.2
        have sv : ∀ l, l < n → υ1.1 224 (11 + 5 * l + 4) = τ1.1 205 l := fun l hl => by
          rw [show 11 + 5 * l + 4 = 10 + 5 + 5 * l by omega]; exact (hx.2 l (by omega)).2.2.2.2
        unfold f_X9_sleeps_56 f_X10_sleeps_49
        refine wp_lp2 (fun m v σ' w ρ' => σ' = τ1 ∧ ρ' = υ1 ∧ w = v ∧ ∃ l, l ≤ n ∧ m = n - l ∧ v.2.2 = Int32.ofNat l) ?_ lpN n _ _ _ _ (Nat.lt_of_le_of_lt hn (by decide)) ⟨rfl, rfl, rfl, 0, by omega, by omega, rfl⟩
        rintro m' rec rec' ⟨v1, v2, v3⟩ σ' w' ρ' ⟨rfl, rfl, rfl, l, hl, rfl, e3⟩ hrec
        replace e3 : v3 = Int32.ofNat l := e3
        subst e3
        simp (disch := omega) only [show (3 : Int32) = Int32.ofNat 3 from rfl, show (26 + 1 : Nat) = 27 from rfl, n1, hp.1.2.2, gd_n, n_idx, n_le]
        by_cases cn : l = n
        · subst cn
          simp only [Nat.le_refl, if_true, eω, bv_s, lt_eq, wp_some]
          by_cases c0 : Int32.ofNat w = 0
          · simp only [c0, if_true, wp_some]; exact ⟨trivial, fin⟩
          · simp only [c0, if_false, wp_some]
            by_cases c1 : v2 < 0
            · simp only [le_not, c1, not_true_eq_false, if_true, if_false, wp_some]; exact ⟨trivial, fin⟩
            · simp only [le_not, c1, not_false_eq_true, if_true, if_false, wp_some]; exact ⟨trivial, fin⟩
        · simp only [show ¬ (n ≤ l) by omega, if_false]
          rw [r_sleptBy _ (by omega), bd_s, show (11 : Int32) = Int32.ofNat 11 from rfl, show (5 : Int32) = Int32.ofNat 5 from rfl, show (4 : Int32) = Int32.ofNat 4 from rfl, show (10 : Int32) = Int32.ofNat 10 from rfl]
          simp (disch := omega) only [n_mul, n_add, n_sub, gd_n, n_idx, lt_eq, n_addI]
          rw [show 11 + 5 * l + 4 - 10 = 5 + 5 * l by omega, kv l (by omega), sv l (by omega)]
          simp only [show (201 + 4 : Nat) = 205 from rfl, show (26 + 5 + 4 : Nat) = 35 from rfl, le_not]
          by_cases c1 : v2 < σ'.1 205 l - σ'.1 35 l
          · simp only [c1, not_true_eq_false, if_true, if_false]
            exact hrec (n - (l + 1)) _ _ _ _ (by omega) ⟨rfl, rfl, rfl, l + 1, by omega, rfl, rfl⟩
          · simp only [c1, not_false_eq_true, if_true, if_false]
            exact hrec (n - (l + 1)) _ _ _ _ (by omega) ⟨rfl, rfl, rfl, l + 1, by omega, rfl, rfl⟩
      · rw [r_in0 (a := 0) (b := 1) (by omega) (by omega) c, bd_s, rng_b c, wp_some, if_pos (by decide), wp_some]; exact ⟨rfl, H⟩
    · rw [r_in0 (a := 1) (b := 100) (by omega) (by omega) c, bd_s, if_pos rfl]
      rw [show (1 : Int32) = Int32.ofNat 1 from rfl, show (100 : Int32) = Int32.ofNat 100 from rfl, rng_a c, wp_some, wp_some]; exact ⟨rfl, H⟩
theorem m_rested (i : Int32) : RM (f_X9_rested 0 i) (f_X10_rested 214 i) := by
  intro σ ρ H
  obtain ⟨r, n, h, m, Y⟩ := id H
  obtain ⟨hn, y1, y2⟩ := RY_n Y
  have h9 : h ≤ 999 := Y.2.2.2.1.2.1.1
  unfold f_X9_rested f_X10_rested
  rcases isl_cases (n := n) (by omega) i with ⟨l, hl, rfl⟩ | c
  · rw [x_isl1 y1 hn hl, r_isl1 y2 hn hl, bd_s, bd_s, if_neg (show ¬ ((1 : Int32) = 0) by decide), if_neg (show ¬ ((1 : Int32) = 0) by decide)]
    obtain ⟨τ, υ, eτ, eυ, C0, -⟩ := HC_start Y
    obtain ⟨T, U, rfl, rfl, D1, D2⟩ := h_chain C0 201
    rw [eτ, bv_s, eυ, bv_s]
    obtain ⟨K, hK, k1, k2⟩ := first_cases (fun k => (T k).1 202 l = 0) 200
    have td : ∀ k, k ≤ 201 → (U k).1 224 (11 + 5 * l) = (T k).1 202 l := fun k hk => by
      rw [show 11 + 5 * l = 10 + 1 + 5 * l by omega]; exact ((D1 k hk).1.2.2.2.2 l (by omega)).1
    have hd : ∀ k, k ≤ 201 → (U k).1 224 10 = (T k).1 201 0 ∧ (T k).1 201 0 = Int32.ofNat (h + k) := fun k hk => ⟨(D1 k hk).1.2.2.2.1, (D1 k hk).1.2.2.1.1⟩
    have X : wp (f_X9_rested_16 0 (Int32.ofNat l) 0 (T 0)) (fun q => q = (if K = 200 then (-2 : Int32) else Int32.ofNat (h + K), T K)) := by
      unfold f_X9_rested_16
      refine wp_lp (fun m v τ => ∃ k, k ≤ K ∧ m = K - k ∧ v = Int32.ofNat k ∧ τ = T k) ?_ lpN K _ _ (Nat.lt_of_le_of_lt hK (by decide)) ⟨0, by omega, by omega, rfl, rfl⟩
      rintro m' rec v τ ⟨k, hk, rfl, rfl, rfl⟩ hrec
      simp (disch := omega) only [show (200 : Int32) = Int32.ofNat 200 from rfl, n_le, gd_n, n_idx, show (201 + 1 : Nat) = 202 from rfl]
      by_cases c : k = K
      · subst c
        by_cases d : k = 200
        · simp only [d, Nat.le_refl, if_true, wp_some]
        · simp only [show ¬ (200 ≤ k) by omega, d, if_false]
          rw [if_pos (k2.resolve_left d), wp_some, (hd k (by omega)).2]
      · rw [if_neg (by omega), if_neg (k1 k (by omega)), (D2 k (by omega)).1, bv_s, lt_eq, n_addI]
        exact hrec (K - (k + 1)) _ _ (by omega) ⟨k + 1, by omega, rfl, rfl, rfl⟩
    rw [wp_eq X, wp_some]
    have Z : ∀ k', k' ≤ 201 → wp (f_X10_laysBack 214 (U k')) (fun ω => RZ (T K) ω) := fun k' hk' => by
      refine wp_mono (HC_back Y (D1 k' hk')) ?_
      rintro ω ⟨-, a, -⟩
      exact ⟨r, n, h, m, RY_back Y (D1 K (by omega)).2.2.2.2 a⟩
    unfold f_X10_rested_19
    refine wp_lp (fun m v τ => (∃ k, k ≤ K ∧ m = K + 1 - k ∧ v = (-2, Int32.ofNat k) ∧ τ = U k) ∨ (m = 0 ∧ K < 200 ∧ v = (Int32.ofNat (h + K), Int32.ofNat (K + 1)) ∧ τ = U (K + 1))) ?_ lpN (K + 1) _ _ (Nat.lt_of_le_of_lt (show K + 1 ≤ 201 by omega) (by decide)) (Or.inl ⟨0, by omega, by omega, rfl, rfl⟩)
    rintro m' rec v τ (⟨k, hk, rfl, rfl, rfl⟩ | ⟨rfl, hK2, rfl, rfl⟩) hrec
    · simp (disch := omega) only [show (200 : Int32) = Int32.ofNat 200 from rfl, show (10 : Int32) = Int32.ofNat 10 from rfl, n_le, gd_n, n_idx, show ¬ ((0 : Int32) ≤ -2) by decide, if_false, r_tiredOf, bd_s, lt_eq]
      by_cases c : k = K
      · subst c
        by_cases d : k = 200
        · simp only [d, Nat.le_refl, if_true]
          obtain ⟨ω, eω, fin⟩ := Z 200 (by omega)
          rw [eω, bv_s, wp_some]; rw [d] at fin; exact ⟨rfl, fin⟩
        · simp only [show ¬ (200 ≤ k) by omega, d, if_false]
          rw [td k (by omega), if_pos (k2.resolve_left d), (hd k (by omega)).1, (hd k (by omega)).2]
          unfold f_X10_rested_46
          rw [(D2 k (by omega)).2, bd_s, lt_eq, n_addI]
          have := hrec 0 (Int32.ofNat (h + k), Int32.ofNat (k + 1)) (U (k + 1)) (by omega) (Or.inr ⟨rfl, by omega, rfl, rfl⟩)
          simp only [d, if_false] at this
          exact this
      · simp only [show ¬ (200 ≤ k) by omega, if_false]
        rw [td k (by omega), if_neg (k1 k (by omega))]
        unfold f_X10_rested_46
        rw [(D2 k (by omega)).2, bd_s, lt_eq, n_addI]
        exact hrec (K + 1 - (k + 1)) _ _ (by omega) (Or.inl ⟨k + 1, by omega, rfl, rfl, rfl⟩)
    · obtain ⟨ω, eω, fin⟩ := Z (K + 1) (by omega)
      have c0 : (0 : Int32) ≤ Int32.ofNat (h + K) := by rw [show (0 : Int32) = Int32.ofNat 0 from rfl, n_le (by omega) (by omega)]; omega
      simp only [c0, if_true, eω, bv_s, show ¬ (K = 200) by omega, if_false]
      by_cases d : (200 : Int32) ≤ Int32.ofNat (K + 1)
      · rw [if_pos d, wp_some]; exact ⟨rfl, fin⟩
      · rw [if_neg d, wp_some]; exact ⟨rfl, fin⟩
  · rw [x_isl0 y1 c, bd_s, r_isl0 y2 c, bd_s, if_pos rfl, if_pos rfl, wp_some, wp_some]; exact ⟨rfl, H⟩
