/-! all clauses of a RULE mean the same on both sides -/
def sbF (i1 : Int32) (k2 : Int32 → mm_S → Option (Int64 × mm_S)) (v : Int32) (σ : mm_S) : Option (Int64 × mm_S) :=
    gd i1 6 <|
    if (σ.1 219 i1.toNatClampNeg) ≤ v then
      some ((0 : Int64), σ)
    else
      lt ((((48 : Int32) * i1) + ((4 : Int32) * v))) fun x8 =>
      gd (x8 + (2 : Int32)) 288 <|
      if (σ.1 218 (x8 + (2 : Int32)).toNatClampNeg) < 0 then
        f_X10_summedBy_58 214 i1 x8 σ
      else
        gd (x8 + (2 : Int32)) 288 <|
        gd (x8 + (3 : Int32)) 288 <|
        bd (f_X10_reckons 214 i1 (σ.1 218 (x8 + (2 : Int32)).toNatClampNeg) (σ.1 218 (x8 + (3 : Int32)).toNatClampNeg) σ) fun r16 σ15 =>
        if (lg_cmp r16 (1 : Int64)) = 0 then
          f_X10_summedBy_58 214 i1 x8 σ15
        else
          lt (v + Int32.ofInt (1)) fun x18 =>
          k2 x18 σ15
theorem sb_eq (i1 : Int32) (ρ : mm_S) : f_X10_summedBy 214 i1 ρ = lp lpN (sbF i1) 0 ρ := by
  unfold f_X10_summedBy f_X10_summedBy_2; exact congrFun (congrFun (congrArg (lp lpN) (funext fun k => funext fun v => funext fun σ => rfl)) 0) _
theorem gD_l {l r : List Int32} {i : Nat} (h : i < l.length) : (l ++ r).getD i 0 = l.getD i 0 := by
  rw [List.getD_eq_getElem?_getD, List.getD_eq_getElem?_getD, List.getElem?_append_left h]
theorem gD_r (l r : List Int32) (i : Nat) : (l ++ r).getD (l.length + i) 0 = r.getD i 0 := by
  rw [List.getD_eq_getElem?_getD, List.getD_eq_getElem?_getD, List.getElem?_append_right (by omega), Nat.add_sub_cancel_left]
theorem gD_map {l : List Int32} {i : Nat} (h : i < l.length) : (l.map en).getD i 0 = en (l.getD i 0) := by
  rw [List.getD_eq_getElem?_getD, List.getD_eq_getElem?_getD, List.getElem?_map, List.getElem?_eq_getElem h]; rfl
theorem gK_1 {D : Nat} {A : Prop} {l : List Int32} (h : gK D 1 A l) (w : Nat → Int64) : ∃ v, (A → v = 0 ∨ v = 1) ∧ ∀ S B, S.length + D ≤ B → crn w B l S = some (v :: S) := by
  obtain ⟨vs, h1, h2, h3⟩ := h w
  match vs, h1, h2, h3 with
  | [v], _, h2, h3 => exact ⟨v, fun a => h2 a v (by simp), h3⟩
theorem r_58 {w : Nat → Int64} {t i rp : Nat} {s : List Int32} {v : Int64} {ρ : mm_S} (ht : t < 6) (hi : i < 12) (h1 : ρ.1 218 (48 * t + 4 * i) = Int32.ofNat rp) (h2 : ρ.1 218 (48 * t + 4 * i + 1) = Int32.ofNat (rp + s.length)) (hv : rp + s.length ≤ 400) (hx : crn w 64 s [] = some [v])
    (hcode : ∀ j, j < s.length → ρ.1 216 (400 * t + (rp + j)) = en (s.getD j 0)) (hw : ∀ i, i < 13 → ρ.2.1 223 i = w i) : ∃ ρ', f_X10_summedBy_58 214 (Int32.ofNat t) (Int32.ofNat (48 * t + 4 * i)) ρ = some (v, ρ') := by
  unfold f_X10_summedBy_58
  obtain ⟨ρ1, e1, -⟩ := r_reck (w := w) ht hv hx hcode hw
  rw [gd_n (by omega) (by omega), show (1 : Int32) = Int32.ofNat 1 from rfl, n_add, gd_n (by omega) (by omega), n_idx (by omega), n_idx (by omega), h1, h2, e1, bd_s]
  exact ⟨_, rfl⟩
theorem x_33 {a k len n : Nat} {v : Int64} {S : List Int64} {σ : mm_S} (h2 : σ.2.2 = a) (hK : (mm_K a).1 = 5) (hl : σ.1 a 1 = Int32.ofNat len) (hlen : len ≤ 400) (hk : k < len) (ec : σ.1 (a + 1) k = 33) (hS : (v :: S).length ≤ 48) (T : STC 210 σ (v :: S)) :
    lp (n + 1) (wF 200) (Int32.ofNat (v :: S).length, Int32.ofNat k) σ = some (v, σ) := by
  rw [lp_so, wF]
  have z : ∀ y : Option (Int64 × mm_S), gz (decide ((mm_K σ.2.2).1 = 5)) y = y := fun y => by unfold gz; rw [h2, if_pos (decide_eq_true hK)]
  rw [List.length_cons] at hS
  rw [z, z, z, h2, hl]
  dsimp only
  simp (disch := omega) only [n_le]
  rw [if_neg (by omega), if_neg (by omega), gd_n (by omega) (by omega), n_idx (by omega), lt_eq, ec, if_pos (by decide)]
  unfold f_X7_worthByRule_66 f_X7_worthByRule_100
  rw [if_neg (by decide), if_pos (by decide), if_pos rfl, List.length_cons, show (1 : Int32) = Int32.ofNat 1 from rfl, if_neg (by rw [n_lt (by omega) (by omega)]; omega), n_sub (by omega), Nat.add_sub_cancel, gd_n (by omega) (by omega), n_idx (by omega), T.1]
theorem x_34 {a k len n : Nat} {y v : Int64} {σ : mm_S} (h2 : σ.2.2 = a) (hK : (mm_K a).1 = 5) (hl : σ.1 a 1 = Int32.ofNat len) (hlen : len ≤ 400) (hk : k < len) (ec : σ.1 (a + 1) k = 34) (T : STC 210 σ [y, v]) :
    lp (n + 1) (wF 200) (Int32.ofNat 2, Int32.ofNat k) σ = if y = 0 then lp n (wF 200) (Int32.ofNat 0, Int32.ofNat (k + 1)) σ else some (v, σ) := by
  rw [lp_so, wF]
  have z : ∀ y : Option (Int64 × mm_S), gz (decide ((mm_K σ.2.2).1 = 5)) y = y := fun y => by unfold gz; rw [h2, if_pos (decide_eq_true hK)]
  rw [z, z, z, h2, hl]
  dsimp only
  simp (disch := omega) only [n_le]
  rw [if_neg (by omega), if_neg (by omega), gd_n (by omega) (by omega), n_idx (by omega), lt_eq, ec, if_pos (by decide)]
  unfold f_X7_worthByRule_66 f_X7_worthByRule_100 f_X7_worthByRule_120
  have t1 : σ.2.1 210 1 = y := T.1
  have t0 : σ.2.1 210 0 = v := T.2.1
  rw [if_neg (by decide), if_pos (by decide), if_neg (by decide), if_pos rfl, if_neg (by decide), n_subI2 (by omega), lt_eq, show (1 : Int32) = Int32.ofNat 1 from rfl, n_add, gd_n (by omega) (by omega), n_idx (by omega), t1, gd_n (by omega) (by omega), n_idx (by omega), t0, lt_eq, n_addI]
  simp only [(l_cmp _ _).2.2]
theorem ev_cls {w : Nat → Int64} {a t len : Nat} (hK : (mm_K a).1 = 5) (hlen : len ≤ 400) (ht : t < 6) : ∀ (cls : List (List Int32 × Option (List Int32))) (k i rp N M : Nat) (σ ρ : mm_S), σ.2.2 = a → σ.1 a 1 = Int32.ofNat len → k + (cls.flatMap ccode).length = len → (∀ j, j < (cls.flatMap ccode).length → σ.1 (a + 1) (k + j) = (cls.flatMap ccode).getD j 0) →
    TBL t ρ cls i rp → ρ.1 219 t = Int32.ofNat (i + cls.length) → i + cls.length ≤ 12 → rp + (cls.flatMap rcode).length ≤ 400 → (∀ j, j < (cls.flatMap rcode).length → ρ.1 216 (400 * t + (rp + j)) = (cls.flatMap rcode).getD j 0) → (∀ i, i < 13 → σ.2.1 209 i = w i) → (∀ i, i < 13 → ρ.2.1 223 i = w i) → (∀ x, x ∈ cls → gcl x) → (cls.flatMap ccode).length < N → cls.length < M →
    wp (lp N (wF 200) (Int32.ofNat 0, Int32.ofNat k) σ) (fun r => wp (lp M (sbF (Int32.ofNat t)) (Int32.ofNat i) ρ) (fun r' => r.1 = r'.1))
  | [], k, i, rp, N, M, σ, ρ, h2, hl, hk, hcode, tb, h219, hi, hrp, hrc, hwx, hwr, hg, hN, hM => by
    obtain ⟨N', rfl⟩ : ∃ n, N = n + 1 := ⟨N - 1, by omega⟩
    obtain ⟨M', rfl⟩ : ∃ n, M = n + 1 := ⟨M - 1, by omega⟩
    have z : ∀ y : Option (Int64 × mm_S), gz (decide ((mm_K σ.2.2).1 = 5)) y = y := fun y => by unfold gz; rw [h2, if_pos (decide_eq_true hK)]
    have hk' : k = len := hk
    have hi' : i ≤ 12 := hi
    rw [lp_so, wF, z, h2, hl]
    dsimp only
    rw [if_pos (by rw [n_le (by omega) (by omega)]; omega), wp_some, lp_so, sbF, gd_n (by omega) (by omega), n_idx (by omega), h219, if_pos (by rw [n_le (by omega) (by omega)]; exact Nat.le_refl _), wp_some]
  | x :: cls, k, i, rp, N, M, σ, ρ, h2, hl, hk, hcode, tb, h219, hi, hrp, hrc, hwx, hwr, hg, hN, hM => by
    have lc : ((x :: cls).flatMap ccode).length = (ccode x).length + (cls.flatMap ccode).length := by rw [List.flatMap_cons, List.length_append]
    have lr : ((x :: cls).flatMap rcode).length = (rcode x).length + (cls.flatMap rcode).length := by rw [List.flatMap_cons, List.length_append]
    have ll : (x :: cls).length = cls.length + 1 := List.length_cons
    obtain ⟨⟨tb1, tb2, tb3⟩, tbr⟩ := tb
    obtain ⟨M', rfl⟩ : ∃ n, M = n + 1 := ⟨M - 1, by omega⟩
    have hx := hg x (by simp)
    obtain ⟨v, -, hv⟩ := gK_1 hx.1 w
    have ref : ∀ y : Option (Int64 × mm_S), (y = lp (M' + 1) (sbF (Int32.ofNat t)) (Int32.ofNat i) ρ) → y = (if (ρ.1 218 (48 * t + 4 * i + 2)) < 0 then f_X10_summedBy_58 214 (Int32.ofNat t) (Int32.ofNat (48 * t + 4 * i)) ρ else
        bd (f_X10_reckons 214 (Int32.ofNat t) (ρ.1 218 (48 * t + 4 * i + 2)) (ρ.1 218 (48 * t + 4 * i + 3)) ρ) fun r16 σ15 =>
        if (lg_cmp r16 (1 : Int64)) = 0 then f_X10_summedBy_58 214 (Int32.ofNat t) (Int32.ofNat (48 * t + 4 * i)) σ15 else lp M' (sbF (Int32.ofNat t)) (Int32.ofNat (i + 1)) σ15) := by
      rintro y rfl
      rw [lp_so, sbF, gd_n (by omega) (by omega), n_idx (by omega), h219, if_neg (by rw [n_le (by omega) (by omega)]; omega), show (48 : Int32) = Int32.ofNat 48 from rfl, show (4 : Int32) = Int32.ofNat 4 from rfl, n_mul, n_mul, n_add, lt_eq, show (2 : Int32) = Int32.ofNat 2 from rfl, show (3 : Int32) = Int32.ofNat 3 from rfl, n_add, n_add, gd_n (by omega) (by omega), n_idx (by omega), gd_n (by omega) (by omega), gd_n (by omega) (by omega), n_idx (by omega)]
      simp only [lt_eq, n_addI]
    rw [ref _ rfl]
    rcases x with ⟨s, _ | u⟩
    · -- without a test
      have ec : ccode (s, none) = s ++ [33] := rfl
      have er : rcode (s, none) = s.map en := rfl
      rw [ec] at lc
      rw [er] at lr
      rw [List.length_append, List.length_singleton] at lc
      rw [List.length_map] at lr
      have tb3' : ρ.1 218 (48 * t + 4 * i + 2) = -1 := tb3
      have cs : ∀ j, j < s.length → σ.1 (a + 1) (k + j) = s.getD j 0 := fun j hj => by
        rw [hcode j (by omega), List.flatMap_cons, ec, List.append_assoc, gD_l hj]
      have c33 : σ.1 (a + 1) (k + s.length) = 33 := by
        rw [hcode s.length (by omega), List.flatMap_cons, ec, List.append_assoc, show s.length = s.length + 0 from rfl, gD_r]; rfl
      have rs : ∀ j, j < s.length → ρ.1 216 (400 * t + (rp + j)) = en (s.getD j 0) := fun j hj => by
        rw [hrc j (by omega), List.flatMap_cons, er, gD_l (by rw [List.length_map]; exact hj), gD_map hj]
      obtain ⟨σ1, e1, T1, L1, hS1⟩ := x_run (w := w) hK hlen s [] [v] k (N - s.length) σ (hv [] 48 (by simp)) h2 hl (by omega) cs (by simp) trivial hwx
      rw [show N - s.length + s.length = N by omega] at e1
      obtain ⟨ρ1, e2⟩ := r_58 (w := w) (s := s) ht (by omega) tb1 tb2 (by omega) (hv [] 64 (by simp)) rs hwr
      rw [show Int32.ofNat 0 = Int32.ofNat ([] : List Int64).length from rfl, e1, show N - s.length = (N - s.length - 1) + 1 by omega, x_33 (L1.2.1.trans h2) hK (by rw [L1.1]; exact hl) hlen (by omega) (by rw [L1.1]; exact c33) hS1 T1, wp_some, tb3', if_pos (by decide), e2, wp_some]
    · -- with a test
      have ec : ccode (s, some u) = s ++ u ++ [34] := rfl
      have er : rcode (s, some u) = s.map en ++ u.map en := rfl
      have lcx : (ccode (s, some u)).length = s.length + u.length + 1 := by rw [ec, List.length_append, List.length_append, List.length_singleton]
      have lrx : (rcode (s, some u)).length = s.length + u.length := by rw [er, List.length_append, List.length_map, List.length_map]
      obtain ⟨tb3', tb4⟩ : ρ.1 218 (48 * t + 4 * i + 2) = Int32.ofNat (rp + s.length) ∧ ρ.1 218 (48 * t + 4 * i + 3) = Int32.ofNat (rp + s.length + u.length) := tb3
      obtain ⟨y, y01, hy⟩ := gK_1 (show gK 26 1 True u from hx.2) w
      have cs : ∀ j, j < s.length → σ.1 (a + 1) (k + j) = s.getD j 0 := fun j hj => by
        rw [hcode j (by omega), List.flatMap_cons, ec, List.append_assoc, List.append_assoc, gD_l hj]
      have cu : ∀ j, j < u.length → σ.1 (a + 1) (k + s.length + j) = u.getD j 0 := fun j hj => by
        rw [Nat.add_assoc, hcode (s.length + j) (by omega), List.flatMap_cons, ec, List.append_assoc, List.append_assoc, gD_r, gD_l hj]
      have c34 : σ.1 (a + 1) (k + s.length + u.length) = 34 := by
        rw [Nat.add_assoc, hcode (s.length + u.length) (by omega), List.flatMap_cons, ec, List.append_assoc, List.append_assoc, gD_r, show u.length = u.length + 0 from rfl, gD_r]; rfl
      have rs : ∀ j, j < s.length → ρ.1 216 (400 * t + (rp + j)) = en (s.getD j 0) := fun j hj => by
        rw [hrc j (by omega), List.flatMap_cons, er, List.append_assoc, gD_l (by rw [List.length_map]; exact hj), gD_map hj]
      have ru : ∀ j, j < u.length → ρ.1 216 (400 * t + (rp + s.length + j)) = en (u.getD j 0) := fun j hj => by
        rw [Nat.add_assoc rp, hrc (s.length + j) (by omega), List.flatMap_cons, er, List.append_assoc, show s.length + j = (s.map en).length + j by rw [List.length_map], gD_r, gD_l (by rw [List.length_map]; exact hj), gD_map hj]
      obtain ⟨σ1, e1, T1, L1, hS1⟩ := x_run (w := w) hK hlen s [] [v] k (N - s.length) σ (hv [] 48 (by simp)) h2 hl (by omega) cs (by simp) trivial hwx
      rw [show N - s.length + s.length = N by omega] at e1
      obtain ⟨σ2, e2, T2, L2, hS2⟩ := x_run (w := w) hK hlen u [v] [y, v] (k + s.length) (N - s.length - u.length) σ1 (hy [v] 48 (by simp)) (L1.2.1.trans h2) (by rw [L1.1]; exact hl) (by omega) (fun j hj => by rw [L1.1]; exact cu j hj) hS1 T1 (fun i hi => by rw [L1.2.2 _ _ (by omega)]; exact hwx i hi)
      rw [show N - s.length - u.length + u.length = N - s.length by omega] at e2
      have L3 := SL_trans L1 L2
      have e3 := x_34 (n := N - s.length - u.length - 1) (L3.2.1.trans h2) hK (by rw [L3.1]; exact hl) hlen (show k + s.length + u.length < len by omega) (by rw [L3.1]; exact c34) T2
      rw [show N - s.length - u.length - 1 + 1 = N - s.length - u.length by omega] at e3
      obtain ⟨ρ1, q1, R1⟩ := r_reck (w := w) ht (show rp + s.length + u.length ≤ 400 by omega) (hy [] 64 (by simp)) ru hwr
      rw [show Int32.ofNat 0 = Int32.ofNat ([] : List Int64).length from rfl, e1, e2, show Int32.ofNat [y, v].length = Int32.ofNat 2 from rfl, e3, tb3', tb4, if_neg (n_neg (by omega)), q1, bd_s]
      simp only [(l_cmp _ _).2.2]
      rcases y01 trivial with rfl | rfl
      · rw [if_pos rfl, if_neg (show ¬ ((0 : Int64) = 1) by decide)]
        refine ev_cls (w := w) hK hlen ht cls (k + s.length + u.length + 1) (i + 1) (rp + (rcode (s, some u)).length) (N - s.length - u.length - 1) M' σ2 ρ1 (L3.2.1.trans h2) (by rw [L3.1]; exact hl) (by omega) (fun j hj => ?_) (TBL_keep (fun j hj => R1.1 _ _ (by omega)) tbr) ?_ (by omega) (by omega) (fun j hj => ?_) (fun i hi => by rw [L3.2.2 _ _ (by omega)]; exact hwx i hi) (fun i hi => by rw [R1.2]; exact hwr i hi) (fun x hx => hg x (by simp [hx])) (by omega) (by omega)
        · rw [L3.1, show k + s.length + u.length + 1 + j = k + ((ccode (s, some u)).length + j) by omega, hcode _ (by omega), List.flatMap_cons, gD_r]
        · rw [R1.1 _ _ (by omega), h219, ll]; congr 1; omega
        · rw [R1.1 _ _ (by omega), Nat.add_assoc rp, hrc _ (by omega), List.flatMap_cons, gD_r]
      · obtain ⟨ρ2, q2⟩ := r_58 (w := w) (ρ := ρ1) (s := s) ht (show i < 12 by omega) (by rw [R1.1 _ _ (by omega)]; exact tb1) (by rw [R1.1 _ _ (by omega)]; exact tb2) (by omega) (hv [] 64 (by simp)) (fun j hj => by rw [R1.1 _ _ (by omega)]; exact rs j hj) (fun i hi => by rw [R1.2]; exact hwr i hi)
        rw [if_neg (show ¬ ((1 : Int64) = 0) by decide), if_pos rfl, wp_some, q2, wp_some]
theorem mm_K_r : ∀ t, t < 6 → (mm_K (14 + 2 * t)).1 = 5 := by decide +kernel
