/-! codes: what they do; values and sums in step -/
theorem t_wordHere {b : Nat → Int32} {L p e q : Nat} {kd vl : Int32} {ρ : mm_S} (T : TP b L ρ) (hq : q ≤ L) (e8 : ρ.1 214 8 = Int32.ofNat q) (hp : sk b L q = p) (t : TK b L p kd vl e) :
    (∃ k, k < 13 ∧ kd = 1 ∧ vl = Int32.ofNat k ∧ f_X10_wordHere 214 ρ = some (Int32.ofNat k, mv ρ p)) ∨ ((∀ k, k < 13 → ¬ (kd = 1 ∧ vl = Int32.ofNat k)) ∧ f_X10_wordHere 214 ρ = some (-1, mv ρ p)) := by
  have p1 := (TK_e t).1
  have ps := TK_sk t
  have hw0 := t_word (k := 0) (by omega) T hq e8 hp t
  have hw : ∀ k, k < 20 → f_X10_isWord 214 (WK k) (mv ρ p) = some (if kd = 1 ∧ vl = Int32.ofNat k then 1 else 0, mv ρ p) := fun k hk => by
    rw [t_word hk (TP_mv p T) p1 (mv_8 _ _) ps t, mv_mv]
  unfold f_X10_wordHere
  have w0 : f_X10_isWord 214 (418520242 : Int64) ρ = _ := hw0
  have w1 : f_X10_isWord 214 (16392370 : Int64) (mv ρ p) = _ := hw 1 (by omega)
  have w2 : f_X10_isWord 214 (21285028 : Int64) (mv ρ p) = _ := hw 2 (by omega)
  have w3 : f_X10_isWord 214 (550036685768868 : Int64) (mv ρ p) = _ := hw 3 (by omega)
  have w4 : f_X10_isWord 214 (16955493 : Int64) (mv ρ p) = _ := hw 4 (by omega)
  have w5 : f_X10_isWord 214 (550036681439333 : Int64) (mv ρ p) = _ := hw 5 (by omega)
  have w6 : f_X10_isWord 214 (136242 : Int64) (mv ρ p) = _ := hw 6 (by omega)
  have w7 : f_X10_isWord 214 (66667 : Int64) (mv ρ p) = _ := hw 7 (by omega)
  have w8 : f_X10_isWord 214 (20574475859 : Int64) (mv ρ p) = _ := hw 8 (by omega)
  have w9 : f_X10_isWord 214 (317301893 : Int64) (mv ρ p) = _ := hw 9 (by omega)
  have w10 : f_X10_isWord 214 (21997134003 : Int64) (mv ρ p) = _ := hw 10 (by omega)
  have w11 : f_X10_isWord 214 (3554411 : Int64) (mv ρ p) = _ := hw 11 (by omega)
  have w12 : f_X10_isWord 214 (278194 : Int64) (mv ρ p) = _ := hw 12 (by omega)
  rw [w0, bd_s]
  by_cases c0 : kd = 1 ∧ vl = Int32.ofNat 0
  · rw [if_pos c0, if_neg (by decide)]; exact Or.inl ⟨0, by omega, c0.1, c0.2, rfl⟩
  rw [if_neg c0, if_pos rfl]
  rw [w1, bd_s]
  by_cases c1 : kd = 1 ∧ vl = Int32.ofNat 1
  · rw [if_pos c1, if_neg (by decide)]; exact Or.inl ⟨1, by omega, c1.1, c1.2, rfl⟩
  rw [if_neg c1, if_pos rfl]
  rw [w2, bd_s]
  by_cases c2 : kd = 1 ∧ vl = Int32.ofNat 2
  · rw [if_pos c2, if_neg (by decide)]; exact Or.inl ⟨2, by omega, c2.1, c2.2, rfl⟩
  rw [if_neg c2, if_pos rfl]
  rw [w3, bd_s]
  by_cases c3 : kd = 1 ∧ vl = Int32.ofNat 3
  · rw [if_pos c3, if_neg (by decide)]; exact Or.inl ⟨3, by omega, c3.1, c3.2, rfl⟩
  rw [if_neg c3, if_pos rfl]
  rw [w4, bd_s]
  by_cases c4 : kd = 1 ∧ vl = Int32.ofNat 4
  · rw [if_pos c4, if_neg (by decide)]; exact Or.inl ⟨4, by omega, c4.1, c4.2, rfl⟩
  rw [if_neg c4, if_pos rfl]
  rw [w5, bd_s]
  by_cases c5 : kd = 1 ∧ vl = Int32.ofNat 5
  · rw [if_pos c5, if_neg (by decide)]; exact Or.inl ⟨5, by omega, c5.1, c5.2, rfl⟩
  rw [if_neg c5, if_pos rfl]
  rw [w6, bd_s]
  by_cases c6 : kd = 1 ∧ vl = Int32.ofNat 6
  · rw [if_pos c6, if_neg (by decide)]; exact Or.inl ⟨6, by omega, c6.1, c6.2, rfl⟩
  rw [if_neg c6, if_pos rfl]
  rw [w7, bd_s]
  by_cases c7 : kd = 1 ∧ vl = Int32.ofNat 7
  · rw [if_pos c7, if_neg (by decide)]; exact Or.inl ⟨7, by omega, c7.1, c7.2, rfl⟩
  rw [if_neg c7, if_pos rfl]
  rw [w8, bd_s]
  by_cases c8 : kd = 1 ∧ vl = Int32.ofNat 8
  · rw [if_pos c8, if_neg (by decide)]; exact Or.inl ⟨8, by omega, c8.1, c8.2, rfl⟩
  rw [if_neg c8, if_pos rfl]
  rw [w9, bd_s]
  by_cases c9 : kd = 1 ∧ vl = Int32.ofNat 9
  · rw [if_pos c9, if_neg (by decide)]; exact Or.inl ⟨9, by omega, c9.1, c9.2, rfl⟩
  rw [if_neg c9, if_pos rfl]
  rw [w10, bd_s]
  by_cases c10 : kd = 1 ∧ vl = Int32.ofNat 10
  · rw [if_pos c10, if_neg (by decide)]; exact Or.inl ⟨10, by omega, c10.1, c10.2, rfl⟩
  rw [if_neg c10, if_pos rfl]
  rw [w11, bd_s]
  by_cases c11 : kd = 1 ∧ vl = Int32.ofNat 11
  · rw [if_pos c11, if_neg (by decide)]; exact Or.inl ⟨11, by omega, c11.1, c11.2, rfl⟩
  rw [if_neg c11, if_pos rfl]
  rw [w12, bd_s]
  by_cases c12 : kd = 1 ∧ vl = Int32.ofNat 12
  · rw [if_pos c12, if_neg (by decide)]; exact Or.inl ⟨12, by omega, c12.1, c12.2, rfl⟩
  rw [if_neg c12, if_pos rfl]
  refine Or.inr ⟨fun k hk => ?_, rfl⟩
  rcases (show k = 0 ∨ k = 1 ∨ k = 2 ∨ k = 3 ∨ k = 4 ∨ k = 5 ∨ k = 6 ∨ k = 7 ∨ k = 8 ∨ k = 9 ∨ k = 10 ∨ k = 11 ∨ k = 12 by omega) with rfl | rfl | rfl | rfl | rfl | rfl | rfl | rfl | rfl | rfl | rfl | rfl | rfl
  · exact c0
  · exact c1
  · exact c2
  · exact c3
  · exact c4
  · exact c5
  · exact c6
  · exact c7
  · exact c8
  · exact c9
  · exact c10
  · exact c11
  · exact c12
def isv (c : Int32) : Prop := (∃ v, v < 100000 ∧ c = Int32.ofNat (40 + v)) ∨ (∃ k, k < 13 ∧ c = Int32.ofNat k)
def en (c : Int32) : Int32 := if 40 ≤ c then 16 * (c - 40) else if c < 13 then 1 + 16 * c else
  if c = 20 then 2 else if c = 21 then 3 else if c = 22 then 4 else if c = 23 then 5 else if c = 24 then 14 else if c = 25 then 6 else if c = 26 then 7 else if c = 27 then 8 else if c = 28 then 9 else if c = 29 then 10 else if c = 30 then 11 else if c = 31 then 12 else 13
theorem en_num {v : Nat} (h : v < 100000) : en (Int32.ofNat (40 + v)) = 0 + 16 * Int32.ofNat v := by
  unfold en
  rw [if_pos (by rw [show (40 : Int32) = Int32.ofNat 40 from rfl, n_le (by omega) (by omega)]; omega), show (40 : Int32) = Int32.ofNat 40 from rfl, n_sub (by omega), show 40 + v - 40 = v by omega, Int32.zero_add]
theorem en_word {k : Nat} (h : k < 13) : en (Int32.ofNat k) = 1 + 16 * Int32.ofNat k := by
  unfold en
  rw [if_neg (by rw [show (40 : Int32) = Int32.ofNat 40 from rfl, n_le (by omega) (by omega)]; omega), if_pos (by rw [show (13 : Int32) = Int32.ofNat 13 from rfl, n_lt (by omega) (by omega)]; omega)]
section
variable {b : Nat → Int32} {L a t m p e q : Nat} {C R : List Int32} {B : Nat → Int32} {σ ρ : mm_S} {kd vl f : Int32}
theorem FV_62 (ha : 14 ≤ a) (h : FV b L a f σ) : wp (f_X4_readValue_62 3 a σ) (FV b L a f) := by
  unfold f_X4_readValue_62
  obtain ⟨τ, e1, h1⟩ := FV_count ha h
  rw [e1, bv_s]
  split
  · obtain ⟨υ, e2, h2⟩ := FV_add ha h1 (40 + τ.1 3 7)
    rw [e2, bv_s]
    obtain ⟨ω, e3, h3⟩ := FV_step ha h2
    rw [e3, bv_s, wp_some]; exact h3
  · obtain ⟨υ, e2, h2⟩ := FV_add ha h1 (τ.1 3 7)
    rw [e2, bv_s]
    obtain ⟨ω, e3, h3⟩ := FV_step ha h2
    rw [e3, bv_s, wp_some]; exact h3
theorem JC_62 (ha : 14 ≤ a) (h : JC b L a m C σ p kd vl e) (hm : m < 60) (hp : p < L) (hC : C.length < 400) : ∃ σ' kd' vl' e', f_X4_readValue_62 3 a σ = some σ' ∧ JC b L a (m + 1) (C ++ [if kd = 2 then 40 + vl else vl]) σ' (sk b L e) kd' vl' e' := by
  unfold f_X4_readValue_62
  obtain ⟨τ, e1, h1⟩ := JC_count ha h hm
  rw [e1, bv_s, (CP_c h1.1).1, (CP_c h1.1).2.1]
  by_cases c : kd = 2
  · rw [if_pos c, if_pos c]
    obtain ⟨υ, e2, h2⟩ := JC_add ha h1 hC (40 + vl)
    obtain ⟨ω, kd', vl', e', e3, h3⟩ := JC_step ha h2 hp
    rw [e2, bv_s, e3, bv_s]; exact ⟨_, _, _, _, rfl, h3⟩
  · rw [if_neg c, if_neg c]
    obtain ⟨υ, e2, h2⟩ := JC_add ha h1 hC vl
    obtain ⟨ω, kd', vl', e', e3, h3⟩ := JC_step ha h2 hp
    rw [e2, bv_s, e3, bv_s]; exact ⟨_, _, _, _, rfl, h3⟩
theorem JC_62f (ha : 14 ≤ a) (h : JC b L a 60 C σ p kd vl e) (hC : C.length ≤ 400) : wp (f_X4_readValue_62 3 a σ) (FV b L a (fl p 3)) := by
  unfold f_X4_readValue_62
  obtain ⟨τ, e1, h1, -, -⟩ := JC_count0 ha h hC
  rw [e1, bv_s]
  split
  · obtain ⟨υ, e2, h2⟩ := FV_add ha h1 (40 + τ.1 3 7)
    rw [e2, bv_s]
    obtain ⟨ω, e3, h3⟩ := FV_step ha h2
    rw [e3, bv_s, wp_some]; exact h3
  · obtain ⟨υ, e2, h2⟩ := FV_add ha h1 (τ.1 3 7)
    rw [e2, bv_s]
    obtain ⟨ω, e3, h3⟩ := FV_step ha h2
    rw [e3, bv_s, wp_some]; exact h3
theorem J_value (ha : 14 ≤ a) (ht : t < 6) (hm : m ≤ 60) (J : JC b L a m C σ p kd vl e) (K : JR b L t B m R ρ q) (hs : sk b L q = p) (hC : C.length ≤ p) (hR : R.length ≤ C.length) :
    (∃ f, wp (f_X4_readValue 3 a σ) (FV b L a f) ∧ RF t B (f_X10_value 214 ρ) f) ∨
    (∃ σ' ρ' c kd' vl' e', f_X4_readValue 3 a σ = some σ' ∧ f_X10_value 214 ρ = some (1, ρ') ∧ isv c ∧ m < 60 ∧ p < L ∧ JC b L a (m + 1) (C ++ [c]) σ' (sk b L e) kd' vl' e' ∧ JR b L t B (m + 1) (R ++ [en c]) ρ' e ∧ ag (fun a k => a ≠ 216 ∧ a ≠ 217 ∧ ¬ (a = 214 ∧ 8 ≤ k ∧ k ≤ 12)) ρ ρ') := by
  have T := CP_TK J.1
  have te := TK_e T
  have hL := (CP_c J.1).2.2.2
  have K1 := JR_mv (q' := p) K te.1
  have ps := TK_sk T
  have bad0 : ∀ P : Prop, wp (bv (f_X4_fail 3 0 σ) fun σ18 => f_X4_readValue_62 3 a σ18) (FV b L a (fl p 0)) := by
    intro _
    obtain ⟨σ1, e1, h1, -, -⟩ := JC_fail (w := 0) ha J (by omega) (by omega)
    rw [show (0 : Int32) = Int32.ofNat 0 from rfl, e1, bv_s]
    exact FV_62 ha h1
  unfold f_X4_readValue f_X4_readValue_29 f_X4_readValue_50 f_X10_value
  rw [(CP_c J.1).1, (CP_c J.1).2.1, JR_see K hs, bd_s, mv_8, lt_eq, t_digit K1.1 T, bd_s]
  by_cases c2 : kd = 2
  · -- a number
    subst c2
    rw [if_neg (show ¬ ((2 : Int32) = 1) by decide), if_pos rfl, if_pos rfl, if_neg (show ¬ ((1 : Int32) = 0) by decide)]
    rcases t_number K1.1 te.1 (mv_8 _ _) ps T K1.2.2.2.1 0 99999 (by decide) with ⟨c, x, en1⟩ | ⟨c, en1⟩
    · left
      have hp : p < L := by rcases T with ⟨-, h, -⟩ | ⟨h, -⟩ | ⟨h, -⟩ | ⟨h, -⟩ <;> first | exact h | exact absurd h (by decide)
      have hv : ¬ (0 ≤ vl) := by
        rcases T with ⟨-, h, -, -⟩ | ⟨-, -, h, -⟩ | ⟨h1, h2, -, h3, h4⟩ | ⟨-, -, -, -, h, -, -⟩
        · exact absurd h (by decide)
        · exact absurd h (by decide)
        · unfold nw at h4
          by_cases c5 : e - p ≤ 5
          · exfalso
            rw [if_pos c5] at h4
            have lt1 : nv b p (e - p) < 10 ^ (e - p) := nv_lt (fun i hi => (ed_in isd b (L := L) (i := p) (by omega) (by omega)).2)
            have lt2 : 10 ^ (e - p) ≤ 10 ^ 5 := Nat.pow_le_pow_right (by decide) c5
            rw [h4, show (0 : Int32) = Int32.ofNat 0 from rfl, show (99999 : Int32) = Int32.ofNat 99999 from rfl, n_lt (by omega) (by omega), n_lt (by omega) (by omega)] at c
            omega
          · rw [if_neg c5] at h4; rw [h4]; decide
        · exact absurd h (by decide)
      refine ⟨fl p 1, ?_, ?_⟩
      · rw [if_neg hv]
        obtain ⟨σ1, e1, h1, -, -⟩ := JC_fail (w := 1) ha J (by omega) (by omega)
        rw [show (1 : Int32) = Int32.ofNat 1 from rfl, e1, bv_s]
        exact FV_62 ha h1
      · rw [en1, bd_s, if_pos rfl]
        exact wp_some.mpr ⟨rfl, RG_i (JR_num (JR_mv K1 te.2.1) x) _⟩
    · obtain ⟨v, hv, ev, hp⟩ : ∃ v, v < 100000 ∧ vl = Int32.ofNat v ∧ p < L := by
        rcases T with ⟨-, h, -, -⟩ | ⟨-, -, h, -⟩ | ⟨h1, h2, -, h3, h4⟩ | ⟨-, -, -, -, h, -, -⟩
        · exact absurd h (by decide)
        · exact absurd h (by decide)
        · unfold nw at h4
          by_cases c5 : e - p ≤ 5
          · rw [if_pos c5] at h4
            have lt1 : nv b p (e - p) < 10 ^ (e - p) := nv_lt (fun i hi => (ed_in isd b (L := L) (i := p) (by omega) (by omega)).2)
            have lt2 : 10 ^ (e - p) ≤ 10 ^ 5 := Nat.pow_le_pow_right (by decide) c5
            exact ⟨_, by omega, h4, h1⟩
          · rw [if_neg c5] at h4; exact absurd (Or.inl (by rw [h4]; decide)) c
        · exact absurd h (by decide)
      have h0 : 0 ≤ vl := by rw [ev, show (0 : Int32) = Int32.ofNat 0 from rfl, n_le (by omega) (by omega)]; omega
      rw [if_pos h0, en1, bd_s, if_neg (show ¬ ((1 : Int32) = 0) by decide)]
      have K2 : JR b L t B m R (su_i (mv (mv ρ p) e) 214 10 vl) e := JR_num (JR_mv K1 te.2.1) vl
      by_cases cm : m < 60
      · right
        obtain ⟨σ', kd', vl', e', s1, s2⟩ := JC_62 ha J cm hp (by omega)
        obtain ⟨ρ1, r1, r2, r3⟩ := JR_makes (p := p) K2 cm
        rw [if_pos rfl] at s2
        have e40 : 40 + vl = Int32.ofNat (40 + v) := by rw [ev]; exact n_add 40 v
        rw [e40] at s2
        obtain ⟨ρ2, r4, r5, r6⟩ := JR_puts ht r2 (by omega) 0 vl
        have ed1 : ρ1.1 214 10 = vl := by rw [r3 _ _ (by omega)]; exact rd_is _ _ _ _
        rw [r1, bd_s, if_neg (show ¬ ((1 : Int32) = 0) by decide), ed1, r4, bv_s, s1]
        refine ⟨_, _, _, _, _, _, rfl, rfl, Or.inl ⟨v, hv, rfl⟩, cm, hp, s2, ?_, fun a k g => ?_⟩
        · rw [en_num hv, ← ev]; exact r5
        · rw [r6 _ _ ⟨g.1, g.2.1⟩, r3 _ _ (by omega), rd_ii, if_neg (by omega), mv_o _ _ (by omega), mv_o _ _ (by omega)]
      · left
        have m60 : m = 60 := by omega
        subst m60
        obtain ⟨ρ1, r1, r2⟩ := JR_makes0 (p := p) K2
        refine ⟨fl p 3, JC_62f ha J (by omega), ?_⟩
        rw [r1, bd_s, if_pos rfl]
        exact ⟨_, rfl, rfl, r2⟩
  · rw [if_neg c2, if_pos rfl]
    rcases t_wordHere K1.1 te.1 (mv_8 _ _) ps T with ⟨k, hk, k1, k2, wh⟩ | ⟨hno, wh⟩
    · subst k1
      have hp : p < L := by rcases T with ⟨-, h, -⟩ | ⟨h, -⟩ | ⟨h, -⟩ | ⟨h, -⟩ <;> first | exact h | exact absurd h (by decide)
      have hee : e = ed isl b L p := by
        rcases T with ⟨-, h, -, -⟩ | ⟨-, -, -, h, -⟩ | ⟨-, -, h, -, -⟩ | ⟨-, -, -, -, h, -, -⟩ <;> first | exact h | exact absurd h (by decide)
      have h0 : ¬ (vl < 0) := by rw [k2]; exact n_neg (by omega)
      have h13 : ¬ (13 ≤ vl) := by rw [k2, show (13 : Int32) = Int32.ofNat 13 from rfl, n_le (by omega) (by omega)]; omega
      have h0' : 0 ≤ vl := by rw [k2, show (0 : Int32) = Int32.ofNat 0 from rfl, n_le (by omega) (by omega)]; omega
      have h0k : 0 ≤ Int32.ofNat k := by rw [← k2]; exact h0'
      rw [if_pos rfl, if_neg h0, if_neg h13, if_neg c2, if_neg (show ¬ ((1 : Int32) = 0) by decide), if_pos h0', wh, bd_s, if_pos h0k, mv_mv]
      by_cases cm : m < 60
      · right
        obtain ⟨σ', kd', vl', e', s1, s2⟩ := JC_62 ha J cm hp (by omega)
        obtain ⟨ρ1, r1, r2, r3⟩ := JR_makes (p := p) K1 cm
        rw [if_neg c2] at s2
        have pw : f_X10_passWord 214 ρ1 = some (mv ρ1 e) := by rw [r_passWord r2.1 r2.2.1 r2.2.2.1, ← hee]
        obtain ⟨ρ2, r4, r5, r6⟩ := JR_puts ht (JR_mv r2 te.2.1) (by omega) 1 (Int32.ofNat k)
        rw [r1, bd_s, if_neg (show ¬ ((1 : Int32) = 0) by decide), pw, bv_s, r4, bv_s, s1]
        refine ⟨_, _, _, _, _, _, rfl, rfl, Or.inr ⟨k, hk, k2⟩, cm, hp, s2, ?_, fun a k g => ?_⟩
        · rw [k2, en_word hk]; exact r5
        · rw [r6 _ _ ⟨g.1, g.2.1⟩, mv_o _ _ (by omega), r3 _ _ (by omega), mv_o _ _ (by omega)]
      · left
        have m60 : m = 60 := by omega
        subst m60
        obtain ⟨ρ1, r1, r2⟩ := JR_makes0 (p := p) K1
        refine ⟨fl p 3, JC_62f ha J (by omega), ?_⟩
        rw [r1, bd_s, if_pos rfl]
        exact ⟨_, rfl, rfl, r2⟩
    · left
      refine ⟨fl p 0, ?_, ?_⟩
      · by_cases c1 : kd = 1
        · rw [if_pos c1]
          by_cases v0 : vl < 0
          · rw [if_pos v0]; exact bad0 True
          · rw [if_neg v0]
            by_cases v13 : 13 ≤ vl
            · rw [if_pos v13]; exact bad0 True
            · exfalso
              subst c1
              rcases T with ⟨-, h, -, -⟩ | ⟨-, -, -, -, h⟩ | ⟨-, -, h, -, -⟩ | ⟨-, -, -, -, h, -, -⟩
              · exact absurd h (by decide)
              · rcases h with ⟨k, hk, -, ek⟩ | ⟨ek, -⟩
                · refine hno k ?_ ⟨rfl, ek⟩
                  rw [ek, show (13 : Int32) = Int32.ofNat 13 from rfl, n_le (by omega) (by omega)] at v13; omega
                · exact v0 (by rw [ek]; decide)
              · exact absurd h (by decide)
              · exact absurd h (by decide)
        · rw [if_neg c1]; exact bad0 True
      · rw [wh, bd_s, if_neg (show ¬ ((0 : Int32) ≤ -1) by decide), mv_mv, JR_fails K1, bd_s, gb_0]
        rw [if_neg c2, if_pos rfl]; unfold RF; rw [wp_some]; exact ⟨rfl, RG_i K1 _⟩
end
