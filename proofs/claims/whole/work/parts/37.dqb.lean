/-! rests -/
theorem x_game (i j : Int32) (σ : mm_S) : f_X9_gameAt i j σ = some (((i * (6 : Int32)) + j) * (2 : Int32), σ) := Eq.trans rfl rfl
def GM (n a b l o : Nat) (σ ρ : mm_S) : Prop := ∀ x y, x < n → y < n → x ≠ l → y ≠ o → (x < a ∨ (x = a ∧ y < b)) → ρ.1 233 (2 * (6 * x + y)) = σ.1 212 (2 * (6 * x + y)) ∧ ρ.1 233 (2 * (6 * x + y) + 1) = σ.1 212 (2 * (6 * x + y) + 1)
/-- in the midst of the games: two are planned -/
def UP (M : Int32) (ρ υ : mm_S) : Prop := (∀ k, υ.1 224 k = ρ.1 224 k) ∧ UK ρ υ ∧ υ.1 214 23 = -1 ∧ υ.1 214 24 = -1 ∧ υ.1 214 25 = M
theorem UP_US {M : Int32} {ρ υ : mm_S} (h : UP M ρ υ) : US ρ (su_i υ 214 25 0) := by
  obtain ⟨h1, h2, h3, h4, h5⟩ := h
  refine ⟨fun k => ?_, fun a k q => ?_, ?_, ?_, rd_is _ _ _ _⟩
  · rw [rd_ia _ _ _ _ _ _ (by decide)]; exact h1 k
  · rw [rd_ii, if_neg (by unfold rT at q; omega)]; exact h2.2.2 a k q
  · rw [rd_ik _ _ _ _ _ _ (by decide)]; exact h3
  · rw [rd_ik _ _ _ _ _ _ (by decide)]; exact h4
def PM (M : Int32) (n l o : Nat) : Prop := bt M l = 1 ∧ bt M o = 1 ∧ ∀ k, k < n → k ≠ l → k ≠ o → bt M k = 0
theorem PM_6 : ∀ l, l < 6 → ∀ o, o < 6 → ∀ k, k < 6 → bt (((1 : Int32) <<< (Int32.ofNat l &&& 31)) ||| ((1 : Int32) <<< (Int32.ofNat o &&& 31))) k = if k = l ∨ k = o then 1 else 0 := by decide +kernel
theorem PM_n (n : Nat) (hn : n ≤ 6) (l : Nat) (hl : l < n) (o : Nat) (ho : o < n) : PM (((1 : Int32) <<< (Int32.ofNat l &&& 31)) ||| ((1 : Int32) <<< (Int32.ofNat o &&& 31))) n l o := by
  refine ⟨?_, ?_, fun k hk q1 q2 => ?_⟩
  · rw [PM_6 l (by omega) o (by omega) l (by omega), if_pos (Or.inl rfl)]
  · rw [PM_6 l (by omega) o (by omega) o (by omega), if_pos (Or.inr rfl)]
  · rw [PM_6 l (by omega) o (by omega) k (by omega), if_neg (by omega)]
theorem HH_plan {M : Int32} {n h l o a b : Nat} {τ υ : mm_S} (H : HH n h τ (su_i υ 214 25 0)) (e : υ.1 214 25 = M) (hM : PM M n l o) (hl : l < n) (ho : o < n) (hlo : l ≠ o) (ha : a < n) (hb : b < n) :
    HH n h (su_i (su_i τ 206 l (Int32.ofNat a)) 206 o (Int32.ofNat b)) (su_i (su_i υ 225 l (Int32.ofNat a)) 225 o (Int32.ofNat b)) := by
  obtain ⟨⟨p1, p2, p3, p4, p5, p6, p7, p8⟩, hs, hj, hX⟩ := H
  have za : ∀ a' k, a' ≠ 206 → (su_i (su_i τ 206 l (Int32.ofNat a)) 206 o (Int32.ofNat b)).1 a' k = τ.1 a' k := fun a' k q => by rw [rd_ia _ _ _ _ _ _ q, rd_ia _ _ _ _ _ _ q]
  have zb : ∀ a' k, a' ≠ 225 → ¬ (a' = 214 ∧ k = 25) → (su_i (su_i υ 225 l (Int32.ofNat a)) 225 o (Int32.ofNat b)).1 a' k = (su_i υ 214 25 0).1 a' k := fun a' k q q' => by rw [rd_ia _ _ _ _ _ _ q, rd_ia _ _ _ _ _ _ q, rd_ii, if_neg q']
  refine ⟨⟨?_, ?_, ?_, ?_, fun k hk => ?_, ?_, fun k hk => ?_, ?_⟩, ?_, nj_keep hj (fun a' k q => za a' k (by omega)), nx_keep hX (fun a' k q => za a' k (by omega)) (fun a' k q => zb a' k (by omega) (by omega))⟩
  · rw [za _ _ (by omega), zb _ _ (by omega) (by omega)]; exact p1
  · rw [za _ _ (by omega), zb _ _ (by omega) (by omega)]; exact p2
  · rw [za _ _ (by omega), zb _ _ (by omega) (by omega)]; exact p3
  · rw [za _ _ (by omega), zb _ _ (by omega) (by omega)]; exact p4
  · rw [za _ _ (by omega), zb _ _ (by omega) (by omega)]; exact p5 k hk
  · rw [za _ _ (by omega), zb _ _ (by omega) (by omega)]; exact p6
  · rw [rd_ia _ _ _ _ _ _ (by decide), rd_ia _ _ _ _ _ _ (by decide), e]
    by_cases c1 : k = o
    · subst c1; exact Or.inr ⟨hM.2.1, b, hb, by rw [rd_is], by rw [rd_is]⟩
    · by_cases c2 : k = l
      · subst c2; exact Or.inr ⟨hM.1, a, ha, by rw [rd_ik _ _ _ _ _ _ c1, rd_is], by rw [rd_ik _ _ _ _ _ _ c1, rd_is]⟩
      · refine Or.inl ⟨hM.2.2 k hk c2 c1, ?_⟩
        rw [rd_ik _ _ _ _ _ _ c1, rd_ik _ _ _ _ _ _ c2]
        rcases p7 k hk with q | ⟨q, -⟩
        · exact q.2
        · rw [rd_is, bt0 k (by omega)] at q; exact absurd q (by decide)
  · rw [za _ _ (by omega), za _ _ (by omega), za _ _ (by omega), zb _ _ (by omega) (by omega)]
    rcases p8 with p8 | ⟨k, q1, q2, q3, q4⟩
    · exact Or.inl p8
    · exact Or.inr ⟨k, q1, q2, q3, EV_keep (by omega) q4 (fun a' k q => za a' k (by omega)) (fun a' k q => zb a' k (by omega) (by omega))⟩
  · unfold HS; rw [za _ _ (by omega), zb _ _ (by omega) (by omega)]; exact hs
theorem GM_keep {n a b l o : Nat} {σ τ ρ υ : mm_S} (H : GM n a b l o σ ρ) (g : ∀ k, τ.1 212 k = σ.1 212 k) (g' : ∀ k, υ.1 233 k = ρ.1 233 k) : GM n a b l o τ υ := by
  intro x y h1 h2 h3 h4 h5; rw [g, g', g, g']; exact H x y h1 h2 h3 h4 h5
theorem h_play {r n h m l o N : Nat} {σ ρ : mm_S} (Y : RY r n h m σ ρ) (hl : l < n) (ho : o < n) (hlo : l ≠ o) (hN : N ≤ 20) :
    wp (f_X9_playAll 0 (Int32.ofNat l) (Int32.ofNat o) (Int32.ofNat N) σ) (fun τ => wp (f_X10_fillsRests 214 (Int32.ofNat l) (Int32.ofNat o) (Int32.ofNat N) ρ) (fun υ => ag cS σ τ ∧ US ρ υ ∧ GM n n 0 l o τ υ)) := by
  obtain ⟨hn, y1, y2⟩ := RY_n Y
  obtain ⟨υ, eυ, uk, us⟩ := UK_keeps Y.2.1
  unfold f_X9_playAll f_X10_fillsRests f_X9_playAll_3 f_X10_fillsRests_18
  rw [eυ, bv_s, lt_eq]
  have hM := PM_n n hn l hl o ho
  generalize hMM : (((1 : Int32) <<< (Int32.ofNat l &&& 31)) ||| ((1 : Int32) <<< (Int32.ofNat o &&& 31))) = M at *
  have up0 : UP M ρ (su_i υ 214 25 M) := by
    refine ⟨fun k => ?_, ⟨fun k hk => ?_, fun k hk => ?_, fun a k q => ?_⟩, ?_, ?_, rd_is _ _ _ _⟩
    · rw [rd_ia _ _ _ _ _ _ (by decide)]; exact us.1 k
    · rw [rd_ia _ _ _ _ _ _ (by decide)]; exact uk.1 k hk
    · rw [rd_ia _ _ _ _ _ _ (by decide)]; exact uk.2.1 k hk
    · rw [rd_ii, if_neg (by unfold rT at q; omega)]; exact uk.2.2 a k q
    · rw [rd_ik _ _ _ _ _ _ (by decide)]; exact us.2.2.1
    · rw [rd_ik _ _ _ _ _ _ (by decide)]; exact us.2.2.2.1
  refine wp_lp2 (fun mm v σ' w ρ' => w = v ∧ ag cS σ σ' ∧ UP M ρ ρ' ∧ ∃ a, a ≤ n ∧ mm = n - a ∧ v = Int32.ofNat a ∧ GM n a 0 l o σ' ρ') ?_ lpN n _ _ _ _ (Nat.lt_of_le_of_lt hn (by decide)) ⟨rfl, ag_refl, up0, 0, by omega, by omega, rfl, fun x y _ _ _ _ q => by omega⟩
  clear up0 eυ uk us
  rintro mm rec rec' v σ' w ρ' ⟨rfl, g, up, a, ha, rfl, rfl, gm⟩ hrec
  have n1 : σ'.1 27 3 = Int32.ofNat n := (g _ _ (by unfold cS; omega)).trans y1
  have n2 : ρ'.1 224 3 = Int32.ofNat n := (up.1 3).trans y2
  simp (disch := omega) only [show (3 : Int32) = Int32.ofNat 3 from rfl, show (26 + 1 : Nat) = 27 from rfl, n1, n2, gd_n, n_idx, n_le]
  by_cases ca : a = n
  · subst ca
    simp only [Nat.le_refl, if_true, lt_eq, wp_some]
    exact ⟨g, UP_US up, GM_keep gm (fun _ => rfl) (fun k => rd_ia _ _ _ _ _ _ (by decide))⟩
  · simp only [show ¬ (n ≤ a) by omega, if_false]
    unfold f_X9_playAll_21 f_X10_fillsRests_32
    refine wp_lp2 (fun mm v σ' w ρ' => w = v ∧ ag cS σ σ' ∧ UP M ρ ρ' ∧ ∃ b, b ≤ n ∧ mm = n - b ∧ v = Int32.ofNat b ∧ GM n a b l o σ' ρ') ?_ lpN n _ _ _ _ (Nat.lt_of_le_of_lt hn (by decide)) ⟨rfl, g, up, 0, by omega, by omega, rfl, gm⟩
    clear g up gm n1 n2 σ' ρ'
    rintro mm rec2 rec2' v σ' w ρ' ⟨rfl, g, up, b, hb, rfl, rfl, gm⟩ hrec2
    have n1 : σ'.1 27 3 = Int32.ofNat n := (g _ _ (by unfold cS; omega)).trans y1
    have n2 : ρ'.1 224 3 = Int32.ofNat n := (up.1 3).trans y2
    simp (disch := omega) only [show (3 : Int32) = Int32.ofNat 3 from rfl, show (26 + 1 : Nat) = 27 from rfl, n1, n2, gd_n, n_idx, n_le, n_eq, n_addI, lt_eq]
    by_cases cb : b = n
    · subst cb
      simp only [Nat.le_refl, if_true]
      exact hrec (b - (a + 1)) _ _ _ _ (by omega) ⟨rfl, g, up, a + 1, by omega, rfl, rfl, fun x y h1 h2 h3 h4 h5 => gm x y h1 h2 h3 h4 (by omega)⟩
    · simp only [show ¬ (n ≤ b) by omega, if_false]
      by_cases cl : a = l
      · simp only [cl, if_true]
        exact hrec2 (n - (b + 1)) _ _ _ _ (by omega) ⟨rfl, g, up, b + 1, by omega, rfl, rfl, fun x y h1 h2 h3 h4 h5 => gm x y h1 h2 h3 h4 (by omega)⟩
      · simp only [cl, if_false]
        by_cases co : b = o
        · simp only [co, if_true]
          exact hrec2 (n - (o + 1)) _ _ _ _ (by omega) ⟨rfl, g, up, o + 1, by omega, rfl, rfl, fun x y h1 h2 h3 h4 h5 => gm x y h1 h2 h3 h4 (by omega)⟩
        · simp only [co, if_false]
          obtain ⟨τ, eτ, H1, g1, h5⟩ := HH_5 Y g (UP_US up)
          have H2 := HH_plan (a := a) (b := b) H1 up.2.2.2.2 hM hl ho hlo (by omega) (by omega)
          have h5' : (su_i (su_i τ 206 l (Int32.ofNat a)) 206 o (Int32.ofNat b)).1 200 5 = -1 := by rw [rd_ia _ _ _ _ _ _ (by decide), rd_ia _ _ _ _ _ _ (by decide)]; exact h5
          obtain ⟨τ2, e2, υ2, e2', H3, h53, so3, -⟩ := h_many (N := N) H2 h5' (by omega)
          rw [eτ, bv_s, e2, bv_s, e2', bv_s]
          have ukb : UK ρ (su_i (su_i ρ' 225 l (Int32.ofNat a)) 225 o (Int32.ofNat b)) := by
            obtain ⟨-, ⟨k1, k2, k3⟩, -⟩ := up
            refine ⟨fun k hk => ?_, fun k hk => ?_, fun a k q => ?_⟩
            · rw [rd_ia _ _ _ _ _ _ (by decide), rd_ia _ _ _ _ _ _ (by decide)]; exact k1 k hk
            · rw [rd_ia _ _ _ _ _ _ (by decide), rd_ia _ _ _ _ _ _ (by decide)]; exact k2 k hk
            · have : a ≠ 225 := by unfold rT rS at q; omega
              rw [rd_ia _ _ _ _ _ _ this, rd_ia _ _ _ _ _ _ this]; exact k3 a k q
          have uk2 := UK_passAll ukb e2' so3
          have F : ko_K _ _ υ2 := fr_X10_passesAll (P := fun a k => (a = 214 ∧ (k = 23 ∨ k = 25)) ∨ a = 233) (a0 := 214) (fun a k q => by omega) (ko_refl (σ := su_i (su_i ρ' 225 l (Int32.ofNat a)) 225 o (Int32.ofNat b))) υ2 e2'
          have F2 : ko_K _ _ τ2 := fr_X7_passHours (P := fun a k => cS a k ∨ a = 212) (a0 := 200) (fun a k q => by unfold cS at q; omega) (ko_refl (σ := su_i (su_i τ 206 l (Int32.ofNat a)) 206 o (Int32.ofNat b))) τ2 e2
          have F3 : ko_K _ _ τ := fr_X9_walkFromNow (P := fun a k => a = 212) (a0 := 0) (fun a k q => by omega) (ko_refl (σ := σ')) τ eτ
          have b23 : υ2.1 214 23 = -1 := by rw [F.1 _ _ (by omega), rd_ia _ _ _ _ _ _ (by decide), rd_ia _ _ _ _ _ _ (by decide)]; exact up.2.2.1
          have b25 : υ2.1 214 25 = M := by rw [F.1 _ _ (by omega), rd_ia _ _ _ _ _ _ (by decide), rd_ia _ _ _ _ _ _ (by decide)]; exact up.2.2.2.2
          have b233 : ∀ k, υ2.1 233 k = ρ'.1 233 k := fun k => by rw [F.1 _ _ (by omega), rd_ia _ _ _ _ _ _ (by decide), rd_ia _ _ _ _ _ _ (by decide)]
          have a212 : ∀ k, τ2.1 212 k = σ'.1 212 k := fun k => by rw [F2.1 _ _ (Or.inr rfl), rd_ia _ _ _ _ _ _ (by decide), rd_ia _ _ _ _ _ _ (by decide)]; exact F3.1 _ _ rfl
          have g2 : ag cS σ τ2 := fun c k q => by
            have : c ≠ 206 := by unfold cS at q; omega
            rw [F2.1 _ _ (Or.inl q), rd_ia _ _ _ _ _ _ this, rd_ia _ _ _ _ _ _ this]; exact g1 c k q
          have tl : ∀ k, k < 6 → υ2.1 224 (11 + 5 * k) = τ2.1 202 k := fun k hk => by
            rw [show 11 + 5 * k = 10 + 1 + 5 * k by omega]; exact (H3.2.2.2.2 k hk).1
          have i1 : (a * 6 + b) * 2 = 2 * (6 * a + b) := by omega
          have h24 := HH_24 H3 h53
          simp (disch := omega) only [x_game, n_lit, n_mul, n_add, bd_s, gd_n, n_idx, lt_eq, r_tiredOf, i1, show (201 + 1 : Nat) = 202 from rfl, n_addI]
          have ukc : UK ρ (su_i (su_i υ2 233 (2 * (6 * a + b)) (υ2.1 224 (11 + 5 * l))) 233 (2 * (6 * a + b) + 1) ((su_i υ2 233 (2 * (6 * a + b)) (υ2.1 224 (11 + 5 * l))).1 224 (11 + 5 * o))) := by
            obtain ⟨k1, k2, k3⟩ := uk2
            refine ⟨fun k hk => ?_, fun k hk => ?_, fun a k q => ?_⟩
            · rw [rd_ia _ _ _ _ _ _ (by decide), rd_ia _ _ _ _ _ _ (by decide)]; exact k1 k hk
            · rw [rd_ia _ _ _ _ _ _ (by decide), rd_ia _ _ _ _ _ _ (by decide)]; exact k2 k hk
            · have : a ≠ 233 := by unfold rT rS at q; omega
              rw [rd_ia _ _ _ _ _ _ this, rd_ia _ _ _ _ _ _ this]; exact k3 a k q
          obtain ⟨ω, eω, w1, w2, w3⟩ := UK_back ukc
          rw [eω, bv_s]
          refine hrec2 (n - (b + 1)) _ _ _ _ (by omega) ⟨rfl, fun c k q => ?_, ⟨w1, w2, ?_, ?_, ?_⟩, b + 1, by omega, rfl, rfl, fun x y h1 h2 h3 h4 h5 => ?_⟩
          · have : c ≠ 212 := by unfold cS at q; omega
            rw [rd_ia _ _ _ _ _ _ this, rd_ia _ _ _ _ _ _ this]; exact g2 c k q
          · rw [w3 _ _ (by decide), rd_ia _ _ _ _ _ _ (by decide), rd_ia _ _ _ _ _ _ (by decide)]; exact b23
          · rw [w3 _ _ (by decide), rd_ia _ _ _ _ _ _ (by decide), rd_ia _ _ _ _ _ _ (by decide)]; exact h24
          · rw [w3 _ _ (by decide), rd_ia _ _ _ _ _ _ (by decide), rd_ia _ _ _ _ _ _ (by decide)]; exact b25
          · rw [w3 _ _ (by decide), w3 _ _ (by decide)]
            by_cases cx : x = a ∧ y = b
            · obtain ⟨rfl, rfl⟩ := cx
              refine ⟨?_, ?_⟩
              · rw [rd_ik _ _ _ _ _ _ (by omega), rd_is, rd_ik _ _ _ _ _ _ (by omega), rd_is]; exact tl l (by omega)
              · rw [rd_is, rd_is, rd_ia _ _ _ _ _ _ (by decide), rd_ia _ _ _ _ _ _ (by decide)]; exact tl o (by omega)
            · have z1 : 2 * (6 * x + y) ≠ 2 * (6 * a + b) := by omega
              rw [rd_ik _ _ _ _ _ _ (by omega), rd_ik _ _ _ _ _ _ (by omega), rd_ik _ _ _ _ _ _ (by omega), rd_ik _ _ _ _ _ _ (by omega), rd_ik _ _ _ _ _ _ (by omega), rd_ik _ _ _ _ _ _ (by omega), rd_ik _ _ _ _ _ _ (by omega), rd_ik _ _ _ _ _ _ (by omega), b233, b233, a212, a212]
              exact gm x y h1 h2 h3 h4 (by omega)
theorem h_settled {n l o x y : Nat} {τ υ : mm_S} (n1 : τ.1 27 3 = Int32.ofNat n) (n2 : υ.1 224 3 = Int32.ofNat n) (hn : n ≤ 6) (gm : GM n n 0 l o τ υ) (hl : l < n) (ho : o < n) (hx : x < n) (hy : y < n) (cx : x ≠ l) (cy : y ≠ o) :
    ∃ b, f_X9_isSettled 0 (Int32.ofNat l) (Int32.ofNat o) (Int32.ofNat x) (Int32.ofNat y) τ = some (b, τ) ∧ f_X10_isRest 214 (Int32.ofNat l) (Int32.ofNat o) (Int32.ofNat x) (Int32.ofNat y) υ = some (b, υ) := by
  have main : wp (f_X9_isSettled 0 (Int32.ofNat l) (Int32.ofNat o) (Int32.ofNat x) (Int32.ofNat y) τ) (fun r => wp (f_X10_isRest 214 (Int32.ofNat l) (Int32.ofNat o) (Int32.ofNat x) (Int32.ofNat y) υ) (fun r' => r.1 = r'.1 ∧ r.2 = τ ∧ r'.2 = υ)) := by
    unfold f_X9_isSettled f_X10_isRest f_X9_isSettled_3 f_X10_isRest_3
    refine wp_lp2 (fun m v σ' w ρ' => σ' = τ ∧ ρ' = υ ∧ w = v ∧ ∃ k, k ≤ n ∧ m = n - k ∧ v = Int32.ofNat k) ?_ lpN n _ _ _ _ (Nat.lt_of_le_of_lt hn (by decide)) ⟨rfl, rfl, rfl, 0, by omega, by omega, rfl⟩
    rintro m rec rec' v σ' w ρ' ⟨rfl, rfl, rfl, k, hk, rfl, rfl⟩ hrec
    have j1 : (k * 6 + y) * 2 = 2 * (6 * k + y) := by omega
    have j2 : (x * 6 + y) * 2 = 2 * (6 * x + y) := by omega
    have j3 : (x * 6 + k) * 2 = 2 * (6 * x + k) := by omega
    unfold f_X9_isSettled_52 f_X10_isRest_54
    simp (disch := omega) only [show (26 + 1 : Nat) = 27 from rfl, n1, n_lit, n2, x_game, bd_s, n_mul, n_add, gd_n, n_idx, n_le, n_eq, n_addI, lt_eq, j1, j2, j3]
    by_cases ck : k = n
    · subst ck; simp only [Nat.le_refl, if_true, wp_some, and_self]
    · have kn : k < n := by omega
      have xy := gm x y hx hy cx cy (Or.inl hx)
      have go : wp (rec (Int32.ofNat (k + 1)) σ') (fun r => wp (rec' (Int32.ofNat (k + 1)) ρ') (fun r' => r.1 = r'.1 ∧ r.2 = σ' ∧ r'.2 = ρ')) := hrec (n - (k + 1)) _ _ _ _ (by omega) ⟨rfl, rfl, rfl, k + 1, by omega, rfl, rfl⟩
      have inner : wp (if k = o then rec (Int32.ofNat (k + 1)) σ' else if σ'.1 212 (2 * (6 * x + y) + 1) ≤ σ'.1 212 (2 * (6 * x + k) + 1) then rec (Int32.ofNat (k + 1)) σ' else some (Int32.ofNat 0, σ'))
          (fun r => wp (if k = o then rec' (Int32.ofNat (k + 1)) ρ' else if ρ'.1 233 (2 * (6 * x + y) + 1) ≤ ρ'.1 233 (2 * (6 * x + k) + 1) then rec' (Int32.ofNat (k + 1)) ρ' else some (Int32.ofNat 0, ρ')) (fun r' => r.1 = r'.1 ∧ r.2 = σ' ∧ r'.2 = ρ')) := by
        by_cases co : k = o
        · simp only [co, if_true]; rw [← co]; exact go
        · have xk := gm x k hx kn cx co (Or.inl hx)
          simp only [co, if_false, xy.2, xk.2]
          by_cases c : σ'.1 212 (2 * (6 * x + y) + 1) ≤ σ'.1 212 (2 * (6 * x + k) + 1)
          · simp only [c, if_true]; exact go
          · simp only [c, if_false, wp_some, and_self]
      simp only [show ¬ (n ≤ k) by omega, if_false]
      by_cases cl : k = l
      · rw [if_pos cl, if_pos cl]; exact inner
      · have ky := gm k y kn hy cl cy (Or.inl kn)
        rw [if_neg cl, if_neg cl]
        simp only [xy.1, ky.1]
        by_cases c : σ'.1 212 (2 * (6 * x + y)) ≤ σ'.1 212 (2 * (6 * k + y))
        · simp only [if_pos c]; exact inner
        · simp only [if_neg c, wp_some, and_self]
  obtain ⟨⟨b, _⟩, e, ⟨b', _⟩, e', q1, q2, q3⟩ := main
  subst q1 q2 q3
  exact ⟨b, e, e'⟩
theorem m_rests (i j k z : Int32) : RM (f_X9_rests 0 i j k z) (f_X10_rests 214 i j k z) := by
  intro σ ρ H
  obtain ⟨r, n, h, m, Y⟩ := id H
  obtain ⟨hn, y1, y2⟩ := RY_n Y
  unfold f_X9_rests f_X10_rests
  rcases two_cases hn i j with ⟨l, o, hl, ho, q, rfl, rfl⟩ | c
  · rw [x_two1 y1 hn hl ho q, r_two1 y2 hn hl ho q, bd_s, bd_s, if_neg (show ¬ ((1 : Int32) = 0) by decide), if_neg (show ¬ ((1 : Int32) = 0) by decide)]
    rcases in_cases 1 20 (by omega) (by omega) k with ⟨N, hN0, hN, rfl⟩ | c
    · rw [r_in1 (a := 1) (b := 20) (by omega) (by omega) hN, bd_s, if_neg (show ¬ ((1 : Int32) = 0) by decide)]
      rw [show (1 : Int32) = Int32.ofNat 1 from rfl, show (20 : Int32) = Int32.ofNat 20 from rfl, show (0 : Int32) = Int32.ofNat 0 from rfl, show (2 : Int32) = Int32.ofNat 2 from rfl, rng_c (by omega) hN0 hN]
      rcases in_cases 0 2 (by omega) (by omega) z with ⟨w, _, hw, rfl⟩ | c
      · rw [r_in1 (a := 0) (b := 2) (by omega) (by omega) hw, bd_s, rng_d (by omega) (by omega) hw, if_neg (show ¬ ((1 : Int32) = Int32.ofNat 0) by decide)]
        obtain ⟨τ, eτ, υ, eυ, g, us, gm⟩ := h_play (N := N) Y hl ho q hN
        rw [eτ, bv_s, eυ, bv_s]
        have fin : RZ τ υ := ⟨r, n, h, m, RY_back Y g us⟩
        have n1 : τ.1 27 3 = Int32.ofNat n := (g _ _ (by unfold cS; omega)).trans y1
        have n2 : υ.1 224 3 = Int32.ofNat n := (us.1 3).trans y2
        unfold f_X9_rests_54 f_X10_rests_57
        refine wp_lp2 (fun m v σ' w ρ' => σ' = τ ∧ ρ' = υ ∧ w = v ∧ ∃ x, x ≤ n ∧ m = n - x ∧ v.2.2.2 = Int32.ofNat x) ?_ lpN n _ _ _ _ (Nat.lt_of_le_of_lt hn (by decide)) ⟨rfl, rfl, rfl, 0, by omega, by omega, rfl⟩
        rintro mm rec rec' ⟨v1, v2, v3, v4⟩ σ' w' ρ' ⟨rfl, rfl, rfl, x, hx, rfl, e4⟩ hrec
        replace e4 : v4 = Int32.ofNat x := e4
        subst e4
        simp (disch := omega) only [show (3 : Int32) = Int32.ofNat 3 from rfl, show (26 + 1 : Nat) = 27 from rfl, n1, n2, gd_n, n_idx, n_le]
        by_cases cn : x = n
        · subst cn
          simp only [Nat.le_refl, if_true]
          by_cases c0 : Int32.ofNat w = 0
          · simp only [c0, if_true, wp_some]; exact ⟨trivial, fin⟩
          · by_cases c1 : Int32.ofNat w = Int32.ofNat 1
            · have c1' : Int32.ofNat w = (1 : Int32) := c1
              simp only [if_neg c0, if_pos c1', wp_some]; exact ⟨trivial, fin⟩
            · have c1' : ¬ (Int32.ofNat w = (1 : Int32)) := c1
              simp only [if_neg c0, if_neg c1', wp_some]; exact ⟨trivial, fin⟩
        · simp only [show ¬ (n ≤ x) by omega, if_false]
          unfold f_X9_rests_72 f_X10_rests_71
          refine wp_lp2 (fun m v σ'' w ρ'' => σ'' = σ' ∧ ρ'' = ρ' ∧ w = v ∧ ∃ y, y ≤ n ∧ m = n - y ∧ v.2.2.2 = Int32.ofNat y) ?_ lpN n _ _ _ _ (Nat.lt_of_le_of_lt hn (by decide)) ⟨rfl, rfl, rfl, 0, by omega, by omega, rfl⟩
          rintro mm rec2 rec2' ⟨v1, v2, v3, v4⟩ σ'' w' ρ'' ⟨rfl, rfl, rfl, y, hy, rfl, e4⟩ hrec2
          replace e4 : v4 = Int32.ofNat y := e4
          subst e4
          simp (disch := omega) only [show (3 : Int32) = Int32.ofNat 3 from rfl, show (26 + 1 : Nat) = 27 from rfl, n1, n2, gd_n, n_idx, n_le, n_eq, n_addI, lt_eq]
          by_cases cy : y = n
          · subst cy
            simp only [Nat.le_refl, if_true]
            exact hrec (y - (x + 1)) _ _ _ _ (by omega) ⟨rfl, rfl, rfl, x + 1, by omega, rfl, rfl⟩
          · simp only [show ¬ (n ≤ y) by omega, if_false]
            by_cases cl : x = l
            · simp only [cl, if_true]
              exact hrec2 (n - (y + 1)) _ _ _ _ (by omega) ⟨rfl, rfl, rfl, y + 1, by omega, rfl, rfl⟩
            · simp only [cl, if_false]
              by_cases co : y = o
              · simp only [co, if_true]
                exact hrec2 (n - (o + 1)) _ _ _ _ (by omega) ⟨rfl, rfl, rfl, o + 1, by omega, rfl, rfl⟩
              · simp only [co, if_false]
                obtain ⟨b, e1, e2⟩ := h_settled n1 n2 hn gm hl ho (by omega : x < n) (by omega : y < n) cl co
                rw [e1, bd_s, e2, bd_s]
                by_cases cb : b = 0
                · simp only [cb, if_true]
                  exact hrec2 (n - (y + 1)) _ _ _ _ (by omega) ⟨rfl, rfl, rfl, y + 1, by omega, rfl, rfl⟩
                · simp only [cb, if_false]
                  by_cases cv : v1 = 0
                  · simp only [cv, if_true]
                    exact hrec2 (n - (y + 1)) _ _ _ _ (by omega) ⟨rfl, rfl, rfl, y + 1, by omega, rfl, rfl⟩
                  · simp only [cv, if_false]
                    exact hrec2 (n - (y + 1)) _ _ _ _ (by omega) ⟨rfl, rfl, rfl, y + 1, by omega, rfl, rfl⟩
      · rw [r_in0 (a := 0) (b := 2) (by omega) (by omega) c, bd_s, rng_b c, wp_some, if_pos (by decide), wp_some]; exact ⟨rfl, H⟩
    · rw [r_in0 (a := 1) (b := 20) (by omega) (by omega) c, bd_s, if_pos rfl]
      rw [show (1 : Int32) = Int32.ofNat 1 from rfl, show (20 : Int32) = Int32.ofNat 20 from rfl, rng_a c, wp_some, wp_some]; exact ⟨rfl, H⟩
  · rw [x_two0 y1 hn c, r_two0 y2 hn c, bd_s, bd_s, if_pos rfl, if_pos rfl, wp_some, wp_some]; exact ⟨rfl, H⟩
