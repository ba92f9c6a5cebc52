def mu_n (μ : mm_M) : mm_M := (fun i j => if i = mn μ then 0 else mi μ i j, fun i j => if i = mn μ then 0 else mj μ i j, fun i j => if i = mn μ then none else mr μ i j, mn μ + 1)
theorem mu_n_lt {g : mm_G} {μ : mm_M} {i : Nat} (h : i < mn μ) : mm_cell g (mu_n μ) i = mm_cell g μ i := by
  have hne : i ≠ mn μ := Nat.ne_of_lt h
  have h1 : mi (mu_n μ) i = mi μ i := by funext j; simp [mu_n, mi, hne]
  have h2 : mj (mu_n μ) i = mj μ i := by funext j; simp [mu_n, mj, hne]
  have h3 : mr (mu_n μ) i = mr μ i := by funext j; simp [mu_n, mr, hne]
  have h4 : mm_fv g (mu_n μ) i = mm_fv g μ i := by funext j; unfold mm_fv; rw [h1, h2, h3]
  unfold mm_cell mm_ar
  rw [h1, h2, h3, h4]
theorem mu_ni (μ : mm_M) : mi (mu_n μ) (mn μ) = fun _ => 0 := by funext j; simp [mu_n, mi]
theorem mu_nj (μ : mm_M) : mj (mu_n μ) (mn μ) = fun _ => 0 := by funext j; simp [mu_n, mj]
theorem mu_nr (μ : mm_M) : mr (mu_n μ) (mn μ) = fun _ => none := by funext j; simp [mu_n, mr]
theorem mm_ws_push (g : mm_G) (μ : mm_M) : mm_ws g (mu_n μ) = mm_ws g μ ++ [(mg_b g + mn μ, mm_cell g (mu_n μ) (mn μ))] := by
  show (List.range (mn μ + 1)).map _ = _
  rw [List.range_succ, List.map_append]
  congr 1
  refine List.map_congr_left (fun i hi => ?_)
  rw [mu_n_lt (List.mem_range.mp hi)]
theorem mm_H_push {g : mm_G} {μ : mm_M} {H H' : Heap} (hH : mm_H g μ H) (hsz : H.size = mg_b g + mn μ) (ho : ∀ q, q < mg_b g + mn μ → H'[q]? = H[q]?) (hc : va_at (mg_D g) vwCl (mg_b g + mn μ, mm_cell g (mu_n μ) (mn μ)) H') : mm_H g (mu_n μ) H' := by
  unfold mm_H
  rw [mm_ws_push]
  refine (va_P.kept hH (fun k q hk => ho q.1 ?_)).app (fun k q hk => ?_)
  · rw [← hsz]
    exact (hH k q hk).lt
  · have hz : k < 1 := (List.getElem?_eq_some_iff.mp hk).1
    rw [show k = 0 by omega] at hk
    cases hk
    exact hc
theorem mm_S_push {g : mm_G} {μ : mm_M} {s : State} {H H' : Heap} {locs : List Loc} (hS : va_S (mm_A g) s.heap H locs) (hsz : H.size = mg_b g + mn μ) (hz : H'.size = mg_b g + mn μ + 1) (ho : ∀ q, q < mg_b g + mn μ → H'[q]? = H[q]?) : va_S (mm_A g) s.heap H' locs :=
  ⟨Nat.le_trans hS.1 (by omega), fun q h1 h2 => (ho q (by have := hS.1; omega)).trans (hS.2.1 q h1 h2), hS.2.2⟩
theorem mm_dv : ∀ c, c < 11 → ∀ j, j < mm_nf c → defaultValue (mm_ty c j) = (if mm_fk c j = 0 then .int 0 else if mm_fk c j = 1 then .long 0 else .null) := by decide +kernel
theorem mm_fv_n {g : mm_G} {μ : mm_M} {c j : Nat} (hK : (mm_K (mn μ)).1 = c) : mm_fv g (mu_n μ) (mn μ) j = (if mm_fk c j = 0 then .int 0 else if mm_fk c j = 1 then .long 0 else .null) := by
  unfold mm_fv
  rw [mu_ni, mu_nj, mu_nr, hK]
  rfl
def mm_nl (own : String) (idx c : Nat) : Prop := c < 11 ∧ Cond.classLink own idx (mm_C c).1 ∈ mm_T ∧ Cond.instantiable (mm_C c).1 (mm_C c).2.2 ∈ mm_T ∧ Cond.initialized (mm_C c).1 ∈ mm_T
section EVA
variable {g : mm_G} {d : Nat} {y : mm_Y} {k n0 pc : Nat} {L : mm_L} {st : List Value} {μ : mm_M} {Q : Value → mm_M → Prop}
theorem mm_zs_step {n0 k a z : Nat} (h0 : n0 ≤ a) (h1 : a + 1 ≤ n0 + k) (hz : mm_sz a = z) : (a - n0) + 1 = (a + 1) - n0 ∧ (mm_zs a - mm_zs n0) + z = mm_zs (a + 1) - mm_zs n0 ∧ (a - n0) + 1 ≤ k ∧ (mm_zs a - mm_zs n0) + z ≤ mm_zs (n0 + k) - mm_zs n0 := by
  have q1 := mm_zs_mono h0
  have q2 := mm_zs_mono h1
  have q3 : mm_zs (a + 1) = mm_zs a + mm_sz a := rfl
  omega
theorem e_new {idx c : Nat} (hd : decode y.2.1 pc = .ok (.new idx, 3)) (hl0 : mm_nl y.1.cls idx c) (hK : (mm_K (mn μ)).1 = c) (hn0 : n0 ≤ mn μ) (hn1 : mn μ + 1 ≤ n0 + k) (hk : mm_EV g d y k n0 (pc + 3) L (.ref (mn μ) :: st) (mu_n μ) Q) : mm_EV g d y k n0 pc L st μ Q := by
  intro p e s m args below meth cc R Z cx hr H locs ls hH hS hl
  obtain ⟨f1, f2, f3, f4⟩ := hl0
  obtain ⟨q1, q2, q3, q4, q5⟩ := mm_clok_all c f1
  have hKn := cx.2.2.2.2.2.1.1 c _ q1
  have hts := cx.2.2.2.2.1
  have hcs := cx.2.2.2.2.2.2.2.2.2.1
  refine mm_size (fun hsz0 => ?_)
  have hsz := mm_sizeH hH hS cx.2.2.2.2.2.2.2.2.2.2.1 hn0 hsz0
  have hst := mm_zs_step (z := (mm_C c).2.2) hn0 hn1 (by unfold mm_sz; rw [hK, if_pos f1, q2])
  refine W.newcK cx.1 cx.2.1 cx.2.2.2.1 (hts _ f2) (hts _ f3) (hts _ f4) rfl hd (Nat.le_trans hst.2.2.1 hcs.1) (Nat.le_trans hst.2.2.2 hcs.2) hKn.2.1 hsz (fun H1 kC hkC e1 z1 o1 => ?_)
  rw [hst.1, hst.2.1]
  refine hk p e s m args below meth cc R Z cx hr H1 locs ls (mm_H_push hH hsz o1 ?_) (mm_S_push hS hsz z1 o1) hl
  rw [mm_obj hK f1]
  refine ⟨_, q1, (u_born (mm_ty c) hts q3 hKn hkC e1 q4).to (fun j hj => ?_)⟩
  have hj' : j < mm_nf c := by rw [← q2]; exact hj
  rw [mm_dv c f1 j hj']
  show _ = ((List.range (mm_nf c)).map (mm_fv g (mu_n μ) (mn μ))).getD j .null
  rw [List.getD_eq_getElem?_getD, mm_fs hj', mm_fv_n hK]
  rfl
theorem e_newaI {n : Int32} {N : Nat} (hd : decode y.2.1 pc = .ok (.newarray .int, 2)) (harr : Cond.arrayClass .int ∈ mm_T) (hK : mm_K (mn μ) = (12, N)) (hn : ¬ n < 0) (hN : n.toNatClampNeg = N) (hb : N * 8 ≤ 536870912) (hn0 : n0 ≤ mn μ) (hn1 : mn μ + 1 ≤ n0 + k) (hk : mm_EV g d y k n0 (pc + 2) L (.ref (mn μ) :: st) (mu_n μ) Q) : mm_EV g d y k n0 pc L (.int n :: st) μ Q := by
  intro p e s m args below meth cc R Z cx hr H locs ls hH hS hl
  have hts := cx.2.2.2.2.1
  have hcs := cx.2.2.2.2.2.2.2.2.2.1
  refine mm_size (fun hsz0 => ?_)
  have hsz := mm_sizeH hH hS cx.2.2.2.2.2.2.2.2.2.2.1 hn0 hsz0
  have hst := mm_zs_step (z := N) hn0 hn1 (by unfold mm_sz; rw [hK]; rfl)
  refine va_newaK (atype := .int) cx.1 cx.2.1 (hts _ harr) rfl hd rfl hn hN (by show N * componentBytes .int ≤ _; simp only [componentBytes]; omega) (Nat.le_trans hst.2.2.1 hcs.1) (Nat.le_trans hst.2.2.2 hcs.2) hsz (fun H1 cA e1 z1 o1 hAr hNm => ?_)
  rw [hst.1, hst.2.1]
  refine hk p e s m args below meth cc R Z cx hr H1 locs ls (mm_H_push hH hsz o1 ?_) (mm_S_push hS hsz z1 o1) hl
  have hcy : cA = mg_cy g 12 := Option.some.inj (hNm.symm.trans (cx.2.2.2.2.2.1.2 1 _ rfl).2)
  rw [mm_arr hK (by decide)]
  unfold mm_ar
  rw [hK, mu_ni, mu_nj, mu_nr]
  show H1[mg_b g + mn μ]? = some (vp_cell (mg_cy g 12) (N, .inl (fun _ => 0)))
  rw [e1, hcy]
  rfl
theorem e_newaB {n : Int32} {N : Nat} (hd : decode y.2.1 pc = .ok (.newarray .byte, 2)) (harr : Cond.arrayClass .byte ∈ mm_T) (hK : mm_K (mn μ) = (11, N)) (hn : ¬ n < 0) (hN : n.toNatClampNeg = N) (hb : N * 8 ≤ 536870912) (hn0 : n0 ≤ mn μ) (hn1 : mn μ + 1 ≤ n0 + k) (hk : mm_EV g d y k n0 (pc + 2) L (.ref (mn μ) :: st) (mu_n μ) Q) : mm_EV g d y k n0 pc L (.int n :: st) μ Q := by
  intro p e s m args below meth cc R Z cx hr H locs ls hH hS hl
  have hts := cx.2.2.2.2.1
  have hcs := cx.2.2.2.2.2.2.2.2.2.1
  refine mm_size (fun hsz0 => ?_)
  have hsz := mm_sizeH hH hS cx.2.2.2.2.2.2.2.2.2.2.1 hn0 hsz0
  have hst := mm_zs_step (z := N) hn0 hn1 (by unfold mm_sz; rw [hK]; rfl)
  refine va_newaK (atype := .byte) cx.1 cx.2.1 (hts _ harr) rfl hd rfl hn hN (by show N * componentBytes .byte ≤ _; simp only [componentBytes]; omega) (Nat.le_trans hst.2.2.1 hcs.1) (Nat.le_trans hst.2.2.2 hcs.2) hsz (fun H1 cA e1 z1 o1 hAr hNm => ?_)
  rw [hst.1, hst.2.1]
  refine hk p e s m args below meth cc R Z cx hr H1 locs ls (mm_H_push hH hsz o1 ?_) (mm_S_push hS hsz z1 o1) hl
  have hcy : cA = mg_cy g 11 := Option.some.inj (hNm.symm.trans (cx.2.2.2.2.2.1.2 0 _ rfl).2)
  rw [mm_arr hK (by decide)]
  unfold mm_ar
  rw [hK, mu_ni, mu_nj, mu_nr]
  show H1[mg_b g + mn μ]? = some (vp_cell (mg_cy g 11) (N, .inl (fun _ => 0)))
  rw [e1, hcy]
  rfl
theorem e_newaZ {n : Int32} {N : Nat} (hd : decode y.2.1 pc = .ok (.newarray .boolean, 2)) (harr : Cond.arrayClass .boolean ∈ mm_T) (hK : mm_K (mn μ) = (14, N)) (hn : ¬ n < 0) (hN : n.toNatClampNeg = N) (hb : N * 8 ≤ 536870912) (hn0 : n0 ≤ mn μ) (hn1 : mn μ + 1 ≤ n0 + k) (hk : mm_EV g d y k n0 (pc + 2) L (.ref (mn μ) :: st) (mu_n μ) Q) : mm_EV g d y k n0 pc L (.int n :: st) μ Q := by
  intro p e s m args below meth cc R Z cx hr H locs ls hH hS hl
  have hts := cx.2.2.2.2.1
  have hcs := cx.2.2.2.2.2.2.2.2.2.1
  refine mm_size (fun hsz0 => ?_)
  have hsz := mm_sizeH hH hS cx.2.2.2.2.2.2.2.2.2.2.1 hn0 hsz0
  have hst := mm_zs_step (z := N) hn0 hn1 (by unfold mm_sz; rw [hK]; rfl)
  refine va_newaK (atype := .boolean) cx.1 cx.2.1 (hts _ harr) rfl hd rfl hn hN (by show N * componentBytes .boolean ≤ _; simp only [componentBytes]; omega) (Nat.le_trans hst.2.2.1 hcs.1) (Nat.le_trans hst.2.2.2 hcs.2) hsz (fun H1 cA e1 z1 o1 hAr hNm => ?_)
  rw [hst.1, hst.2.1]
  refine hk p e s m args below meth cc R Z cx hr H1 locs ls (mm_H_push hH hsz o1 ?_) (mm_S_push hS hsz z1 o1) hl
  have hcy : cA = mg_cy g 14 := Option.some.inj (hNm.symm.trans (cx.2.2.2.2.2.1.2 3 _ rfl).2)
  rw [mm_arr hK (by decide)]
  unfold mm_ar
  rw [hK, mu_ni, mu_nj, mu_nr]
  show H1[mg_b g + mn μ]? = some (vp_cell (mg_cy g 14) (N, .inl (fun _ => 0)))
  rw [e1, hcy]
  rfl
theorem e_newaJ {n : Int32} {N : Nat} (hd : decode y.2.1 pc = .ok (.newarray .long, 2)) (harr : Cond.arrayClass .long ∈ mm_T) (hK : mm_K (mn μ) = (13, N)) (hn : ¬ n < 0) (hN : n.toNatClampNeg = N) (hb : N * 8 ≤ 536870912) (hn0 : n0 ≤ mn μ) (hn1 : mn μ + 1 ≤ n0 + k) (hk : mm_EV g d y k n0 (pc + 2) L (.ref (mn μ) :: st) (mu_n μ) Q) : mm_EV g d y k n0 pc L (.int n :: st) μ Q := by
  intro p e s m args below meth cc R Z cx hr H locs ls hH hS hl
  have hts := cx.2.2.2.2.1
  have hcs := cx.2.2.2.2.2.2.2.2.2.1
  refine mm_size (fun hsz0 => ?_)
  have hsz := mm_sizeH hH hS cx.2.2.2.2.2.2.2.2.2.2.1 hn0 hsz0
  have hst := mm_zs_step (z := N) hn0 hn1 (by unfold mm_sz; rw [hK]; rfl)
  refine va_newaK (atype := .long) cx.1 cx.2.1 (hts _ harr) rfl hd rfl hn hN (by show N * componentBytes .long ≤ _; simp only [componentBytes]; omega) (Nat.le_trans hst.2.2.1 hcs.1) (Nat.le_trans hst.2.2.2 hcs.2) hsz (fun H1 cA e1 z1 o1 hAr hNm => ?_)
  rw [hst.1, hst.2.1]
  refine hk p e s m args below meth cc R Z cx hr H1 locs ls (mm_H_push hH hsz o1 ?_) (mm_S_push hS hsz z1 o1) hl
  have hcy : cA = mg_cy g 13 := Option.some.inj (hNm.symm.trans (cx.2.2.2.2.2.1.2 2 _ rfl).2)
  rw [mm_arr hK (by decide)]
  unfold mm_ar
  rw [hK, mu_ni, mu_nj, mu_nr]
  show H1[mg_b g + mn μ]? = some (vp_cell (mg_cy g 13) (N, .inr (.inl (fun _ => 0))))
  rw [e1, hcy]
  rfl
theorem e_newq15 {idx : Nat} {n : Int32} {N : Nat} (hd : decode y.2.1 pc = .ok (.anewarray idx, 3)) (hcl : Cond.classLink y.1.cls idx RX2 ∈ mm_T) (hK : mm_K (mn μ) = (15, N)) (hn : ¬ n < 0) (hN : n.toNatClampNeg = N) (hb : N * 8 ≤ 536870912) (hn0 : n0 ≤ mn μ) (hn1 : mn μ + 1 ≤ n0 + k) (hk : mm_EV g d y k n0 (pc + 3) L (.ref (mn μ) :: st) (mu_n μ) Q) : mm_EV g d y k n0 pc L (.int n :: st) μ Q := by
  intro p e s m args below meth cc R Z cx hr H locs ls hH hS hl
  have hts := cx.2.2.2.2.1
  have hcs := cx.2.2.2.2.2.2.2.2.2.1
  subst hN
  refine mm_size (fun hsz0 => ?_)
  have hsz := mm_sizeH hH hS cx.2.2.2.2.2.2.2.2.2.2.1 hn0 hsz0
  have hst := mm_zs_step (z := n.toNatClampNeg) hn0 hn1 (by unfold mm_sz; rw [hK]; rfl)
  refine W.anew cx.1 cx.2.1 cx.2.2.2.1 (hts _ hcl) (va_AO.use cx.2.2.2.2.2.2.1.2.2.2.2.2.2.1) rfl hd rfl hn (by omega) (Nat.le_trans hst.2.2.1 hcs.1) (Nat.le_trans hst.2.2.2 hcs.2) (fun cA kA comp f1 f2 f3 f4 => ?_)
  rw [hst.1, hst.2.1, hsz]
  have ho : ∀ q, q < mg_b g + mn μ → (H.push ({ cls := cA, slots := Array.replicate n.toNatClampNeg .null, vm := .none } : Cell))[q]? = H[q]? := fun q hq => by rw [Array.getElem?_push, if_neg (by omega)]
  have hRA := (cx.2.2.2.2.2.1.2 4 _ rfl).2
  have hcy : cA = mg_cy g 15 := by
    obtain ⟨_, _, _, _, _, h4⟩ := hRA
    exact Option.some.inj (f1.symm.trans h4)
  refine hk p e s m args below meth cc R Z cx hr _ locs ls (mm_H_push hH hsz ho ?_) (mm_S_push hS hsz (by rw [Array.size_push, hsz]) ho) hl
  rw [mm_arr hK (by decide)]
  unfold mm_ar
  rw [hK, mu_ni, mu_nj, mu_nr]
  show (H.push ({ cls := cA, slots := Array.replicate n.toNatClampNeg .null, vm := .none } : Cell))[mg_b g + mn μ]? = some (vp_cell (mg_cy g 15) (n.toNatClampNeg, .inr (.inr (.inr (.inr (fun _ => none))))))
  rw [← hsz, Array.getElem?_push_size, ← hcy, vp_cell_q, ← arrV_new]
  rfl
theorem e_aast15 {a x n : Nat} {j : Int32} (hd : decode y.2.1 pc = .ok (.aastore, 1)) (hK : mm_K a = (15, n)) (ha : a < mn μ) (hKx : (mm_K x).1 = 2) (hx : x < mn μ) (hin : vp_in j n) (hk : mm_EV g d y k n0 (pc + 1) L st (mu_r μ a j.toNatClampNeg (some x)) Q) : mm_EV g d y k n0 pc L (.ref x :: .int j :: .ref a :: st) μ Q := by
  intro p e s m args below meth cc R Z cx hr H locs ls hH hS hl
  refine va_astq (D := mg_D g) cx.1 cx.2.1 cx.2.2.2.2.2.1 hH (mm_wsD g μ) hS a 4 x 2 (cA := mg_cy g 15) (n := n) (f := fun i => (mr μ a i).map (mg_b g + ·)) ((mm_ws_get g μ ha).trans (by rw [mm_arr hK (by decide)]; unfold mm_ar; rw [hK]; rfl)) rfl ((mm_ws_get g μ hx).trans (by rw [mm_obj hKx (by decide)])) rfl hin hd (fun H1 locs1 h1 h2 h3 => hk p e s m args below meth cc R Z cx hr H1 locs1 ls ?_ h3 hl)
  refine cast (congrArg (fun w => va_P (mg_D g) vwCl w H1) ?_) h1
  rw [← mm_ws_set g μ (mu_r μ a j.toNatClampNeg (some x)) (a := a) rfl (fun i hi => mu_r_ne hi), mm_arr hK (by decide)]
  unfold mm_ar
  rw [hK]
  congr 8
  refine congrArg Sum.inr ?_
  funext i
  by_cases hi : i = j.toNatClampNeg <;> simp [mu_r, mr, va_up, hi]
theorem e_newq16 {idx : Nat} {n : Int32} {N : Nat} (hd : decode y.2.1 pc = .ok (.anewarray idx, 3)) (hcl : Cond.classLink y.1.cls idx RX5 ∈ mm_T) (hK : mm_K (mn μ) = (16, N)) (hn : ¬ n < 0) (hN : n.toNatClampNeg = N) (hb : N * 8 ≤ 536870912) (hn0 : n0 ≤ mn μ) (hn1 : mn μ + 1 ≤ n0 + k) (hk : mm_EV g d y k n0 (pc + 3) L (.ref (mn μ) :: st) (mu_n μ) Q) : mm_EV g d y k n0 pc L (.int n :: st) μ Q := by
  intro p e s m args below meth cc R Z cx hr H locs ls hH hS hl
  have hts := cx.2.2.2.2.1
  have hcs := cx.2.2.2.2.2.2.2.2.2.1
  subst hN
  refine mm_size (fun hsz0 => ?_)
  have hsz := mm_sizeH hH hS cx.2.2.2.2.2.2.2.2.2.2.1 hn0 hsz0
  have hst := mm_zs_step (z := n.toNatClampNeg) hn0 hn1 (by unfold mm_sz; rw [hK]; rfl)
  refine W.anew cx.1 cx.2.1 cx.2.2.2.1 (hts _ hcl) (va_AO.use cx.2.2.2.2.2.2.1.2.2.2.2.2.2.2.1) rfl hd rfl hn (by omega) (Nat.le_trans hst.2.2.1 hcs.1) (Nat.le_trans hst.2.2.2 hcs.2) (fun cA kA comp f1 f2 f3 f4 => ?_)
  rw [hst.1, hst.2.1, hsz]
  have ho : ∀ q, q < mg_b g + mn μ → (H.push ({ cls := cA, slots := Array.replicate n.toNatClampNeg .null, vm := .none } : Cell))[q]? = H[q]? := fun q hq => by rw [Array.getElem?_push, if_neg (by omega)]
  have hRA := (cx.2.2.2.2.2.1.2 5 _ rfl).2
  have hcy : cA = mg_cy g 16 := by
    obtain ⟨_, _, _, _, _, h4⟩ := hRA
    exact Option.some.inj (f1.symm.trans h4)
  refine hk p e s m args below meth cc R Z cx hr _ locs ls (mm_H_push hH hsz ho ?_) (mm_S_push hS hsz (by rw [Array.size_push, hsz]) ho) hl
  rw [mm_arr hK (by decide)]
  unfold mm_ar
  rw [hK, mu_ni, mu_nj, mu_nr]
  show (H.push ({ cls := cA, slots := Array.replicate n.toNatClampNeg .null, vm := .none } : Cell))[mg_b g + mn μ]? = some (vp_cell (mg_cy g 16) (n.toNatClampNeg, .inr (.inr (.inr (.inr (fun _ => none))))))
  rw [← hsz, Array.getElem?_push_size, ← hcy, vp_cell_q, ← arrV_new]
  rfl
theorem e_aast16 {a x n : Nat} {j : Int32} (hd : decode y.2.1 pc = .ok (.aastore, 1)) (hK : mm_K a = (16, n)) (ha : a < mn μ) (hKx : (mm_K x).1 = 5) (hx : x < mn μ) (hin : vp_in j n) (hk : mm_EV g d y k n0 (pc + 1) L st (mu_r μ a j.toNatClampNeg (some x)) Q) : mm_EV g d y k n0 pc L (.ref x :: .int j :: .ref a :: st) μ Q := by
  intro p e s m args below meth cc R Z cx hr H locs ls hH hS hl
  refine va_astq (D := mg_D g) cx.1 cx.2.1 cx.2.2.2.2.2.1 hH (mm_wsD g μ) hS a 5 x 5 (cA := mg_cy g 16) (n := n) (f := fun i => (mr μ a i).map (mg_b g + ·)) ((mm_ws_get g μ ha).trans (by rw [mm_arr hK (by decide)]; unfold mm_ar; rw [hK]; rfl)) rfl ((mm_ws_get g μ hx).trans (by rw [mm_obj hKx (by decide)])) rfl hin hd (fun H1 locs1 h1 h2 h3 => hk p e s m args below meth cc R Z cx hr H1 locs1 ls ?_ h3 hl)
  refine cast (congrArg (fun w => va_P (mg_D g) vwCl w H1) ?_) h1
  rw [← mm_ws_set g μ (mu_r μ a j.toNatClampNeg (some x)) (a := a) rfl (fun i hi => mu_r_ne hi), mm_arr hK (by decide)]
  unfold mm_ar
  rw [hK]
  congr 8
  refine congrArg Sum.inr ?_
  funext i
  by_cases hi : i = j.toNatClampNeg <;> simp [mu_r, mr, va_up, hi]
theorem e_newq17 {idx : Nat} {n : Int32} {N : Nat} (hd : decode y.2.1 pc = .ok (.anewarray idx, 3)) (hcl : Cond.classLink y.1.cls idx RX8 ∈ mm_T) (hK : mm_K (mn μ) = (17, N)) (hn : ¬ n < 0) (hN : n.toNatClampNeg = N) (hb : N * 8 ≤ 536870912) (hn0 : n0 ≤ mn μ) (hn1 : mn μ + 1 ≤ n0 + k) (hk : mm_EV g d y k n0 (pc + 3) L (.ref (mn μ) :: st) (mu_n μ) Q) : mm_EV g d y k n0 pc L (.int n :: st) μ Q := by
  intro p e s m args below meth cc R Z cx hr H locs ls hH hS hl
  have hts := cx.2.2.2.2.1
  have hcs := cx.2.2.2.2.2.2.2.2.2.1
  subst hN
  refine mm_size (fun hsz0 => ?_)
  have hsz := mm_sizeH hH hS cx.2.2.2.2.2.2.2.2.2.2.1 hn0 hsz0
  have hst := mm_zs_step (z := n.toNatClampNeg) hn0 hn1 (by unfold mm_sz; rw [hK]; rfl)
  refine W.anew cx.1 cx.2.1 cx.2.2.2.1 (hts _ hcl) (va_AO.use cx.2.2.2.2.2.2.1.2.2.2.2.2.2.2.2.1) rfl hd rfl hn (by omega) (Nat.le_trans hst.2.2.1 hcs.1) (Nat.le_trans hst.2.2.2 hcs.2) (fun cA kA comp f1 f2 f3 f4 => ?_)
  rw [hst.1, hst.2.1, hsz]
  have ho : ∀ q, q < mg_b g + mn μ → (H.push ({ cls := cA, slots := Array.replicate n.toNatClampNeg .null, vm := .none } : Cell))[q]? = H[q]? := fun q hq => by rw [Array.getElem?_push, if_neg (by omega)]
  have hRA := (cx.2.2.2.2.2.1.2 6 _ rfl).2
  have hcy : cA = mg_cy g 17 := by
    obtain ⟨_, _, _, _, _, h4⟩ := hRA
    exact Option.some.inj (f1.symm.trans h4)
  refine hk p e s m args below meth cc R Z cx hr _ locs ls (mm_H_push hH hsz ho ?_) (mm_S_push hS hsz (by rw [Array.size_push, hsz]) ho) hl
  rw [mm_arr hK (by decide)]
  unfold mm_ar
  rw [hK, mu_ni, mu_nj, mu_nr]
  show (H.push ({ cls := cA, slots := Array.replicate n.toNatClampNeg .null, vm := .none } : Cell))[mg_b g + mn μ]? = some (vp_cell (mg_cy g 17) (n.toNatClampNeg, .inr (.inr (.inr (.inr (fun _ => none))))))
  rw [← hsz, Array.getElem?_push_size, ← hcy, vp_cell_q, ← arrV_new]
  rfl
theorem e_aast17 {a x n : Nat} {j : Int32} (hd : decode y.2.1 pc = .ok (.aastore, 1)) (hK : mm_K a = (17, n)) (ha : a < mn μ) (hKx : (mm_K x).1 = 8) (hx : x < mn μ) (hin : vp_in j n) (hk : mm_EV g d y k n0 (pc + 1) L st (mu_r μ a j.toNatClampNeg (some x)) Q) : mm_EV g d y k n0 pc L (.ref x :: .int j :: .ref a :: st) μ Q := by
  intro p e s m args below meth cc R Z cx hr H locs ls hH hS hl
  refine va_astq (D := mg_D g) cx.1 cx.2.1 cx.2.2.2.2.2.1 hH (mm_wsD g μ) hS a 6 x 8 (cA := mg_cy g 17) (n := n) (f := fun i => (mr μ a i).map (mg_b g + ·)) ((mm_ws_get g μ ha).trans (by rw [mm_arr hK (by decide)]; unfold mm_ar; rw [hK]; rfl)) rfl ((mm_ws_get g μ hx).trans (by rw [mm_obj hKx (by decide)])) rfl hin hd (fun H1 locs1 h1 h2 h3 => hk p e s m args below meth cc R Z cx hr H1 locs1 ls ?_ h3 hl)
  refine cast (congrArg (fun w => va_P (mg_D g) vwCl w H1) ?_) h1
  rw [← mm_ws_set g μ (mu_r μ a j.toNatClampNeg (some x)) (a := a) rfl (fun i hi => mu_r_ne hi), mm_arr hK (by decide)]
  unfold mm_ar
  rw [hK]
  congr 8
  refine congrArg Sum.inr ?_
  funext i
  by_cases hi : i = j.toNatClampNeg <;> simp [mu_r, mr, va_up, hi]
theorem e_objI {idx a : Nat} (hd : decode y.2.1 pc = .ok (.invokespecial idx, 3)) (hl0 : Cond.methodLink y.1.cls idx Lib.objectInit ∈ mm_T ∧ Cond.instanceMethod Lib.objectInit ∈ mm_T ∧ Cond.code Lib.objectInit ⟨#[0xb1]⟩ 1 none ∈ mm_T) (hw : (st.map fun v => v.category).sum ≤ 8) (hk : mm_EV g d y k n0 (pc + 3) L st μ Q) : mm_EV g d y k n0 pc L (.ref a :: st) μ Q := by
  intro p e s m args below meth cc R Z cx hr H locs ls hH hS hl
  have hts := cx.2.2.2.2.1
  have hw' : ((st.map (mm_e g)).map fun v => v.category).sum ≤ 8 := by
    rw [List.map_map]
    refine le_of_eq_of_le (congrArg List.sum (List.map_congr_left (fun v _ => mm_cat g v))) hw
  have hrm := cx.2.2.2.2.2.2.2.2.1
  have hrr := lv_room (m := m) (pc := pc) (ls := ls) (rest := (Value.ref (mg_b g + a) :: st.map (mm_e g))) hw'
  exact W.objInit cx.1 cx.2.1 cx.2.2.2.1 (hts _ hl0.1) (hts _ hl0.2.1) (hts _ hl0.2.2) rfl (hl.1.trans cx.2.2.1.symm) rfl hd (by omega) (by show 2 * (F0 m pc ls (Value.ref (mg_b g + a) :: st.map (mm_e g))).monitorRoom + (List.map (fun v => v.category) (List.map (mm_e g) st)).sum + 12 ≤ R.locals; omega) (hk p e s m args below meth cc R Z cx hr H locs ls hH hS hl)
def mm_mlN (idx : Nat) (z : mm_Y) (n : Nat) : Prop := Cond.initialized z.1.cls ∈ mm_T ∧ Cond.code z.1 z.2.1 z.2.2.1 z.2.2.2 ∈ mm_T ∧ (z.1.cls ≠ "java/lang/invoke/MethodHandle" ∧ z.1.cls ≠ "java/lang/invoke/VarHandle" ∧ (parseMethodDescriptor z.1.desc).map (fun d => d.parameters.length) = some n) ∧ z.2.2.1 ≤ 80 ∧ z.1.name = "<init>" ∧ Cond.instanceMethod z.1 ∈ mm_T ∧ z.2.2.2 = none
theorem e_callN {z : mm_Y} {idx kz a : Nat} {host : String} {av : List Value} {st0 : List Value} {Qz : Value → mm_M → Prop} (hd : decode y.2.1 pc = .ok (.invokespecial idx, 3)) (hl0 : mm_mlN idx z av.length) (hnest : ∀ (U : State) (H : Heap), mm_fa g U H → va_Nw (.methodLinkNest y.1.cls idx z.1 host) U) (hst : st0 = av.reverse ++ .ref a :: st) (hM : mm_MV g d z kz (.ref a :: av) μ Qz) (hn0 : n0 ≤ mn μ) (hkz : mn μ + kz ≤ n0 + k) (hw : (st.map fun v => v.category).sum ≤ 8)
    (hk : ∀ (u : mm_M), Qz .null u → mn u = mn μ + kz → mm_EV g (d + 1) y k n0 (pc + 3) L st u Q) : mm_EV g (d + 1) y k n0 pc L st0 μ Q := by
  intro p e s m args below meth cc R Z cx hr H locs ls hH hS hl
  subst hst
  refine mm_size (fun hsz0 => ?_)
  have hsz := mm_sizeH hH hS cx.2.2.2.2.2.2.2.2.2.2.1 hn0 hsz0
  have hrm := mm_room hn0 hkz rfl
  have hcs := cx.2.2.2.2.2.2.2.2.2.1
  have hfl := cx.2.2.2.2.2.2.2.2.1
  have hts := cx.2.2.2.2.1
  obtain ⟨l1, l2, l3, l4, l5, l6, l7⟩ := hl0
  have hqc : mm_Qc g z.2.2.2 (mn μ + kz) Qz = va_Qv (fun u => Qz .null u ∧ mn u = mn μ + kz) (fun u t => mm_H g u t.heap) (mm_A g) := by
    rw [l7]
    rfl
  unfold mm_MV at hM
  rw [hqc] at hM
  have hw' : ((st.map (mm_e g)).map fun v => v.category).sum ≤ 8 := by
    rw [List.map_map]
    refine le_of_eq_of_le (congrArg List.sum (List.map_congr_left (fun v _ => mm_cat g v))) hw
  have hcn : va_CN R s args y.1.cls idx z.1 host z.2.1 z.2.2.1 none (Cond.code z.1 z.2.1 z.2.2.1 z.2.2.2 :: mm_T) (mm_R d kz (mm_zs (mn μ + kz) - mm_zs (mn μ))) kz (mm_zs (mn μ + kz) - mm_zs (mn μ)) av.length := by
    have := va_cnB (R := R) (rm := mm_R d kz (mm_zs (mn μ + kz) - mm_zs (mn μ))) av.length hts (mm_good_code l2) rfl rfl rfl (hnest s s.heap cx.2.2.2.2.2.2.1) (hts _ l1) l3 ⟨by show d + 1 + 1 ≤ R.frames; exact hfl.1, by show 8 + (z.2.2.1 + 11) + 100 * (d + 1) ≤ R.locals; omega⟩
    rw [l7] at this ⊢
    exact this
  refine va_callv (S := mm_M) (A0 := mm_A g) (H0 := s.heap) (va_runIN (As := av.map (mm_e g)) (rest := st.map (mm_e g)) (b := mg_b g + a) ⟨cx.1, cx.2.1, cx.2.2.1, cx.2.2.2.1, cx.2.2.2.2.1⟩ hM ⟨hcn, l5, hts _ l6⟩ ⟨mm_blind g _ μ, mm_preU cx hH hS hsz (.ref a :: av)⟩ rfl (by simp) hl.1 (by simp [mm_e]) (lv_room hw') hd ⟨Nat.le_trans hrm.2.2.1 hcs.1, Nat.le_trans hrm.2.2.2 hcs.2⟩) hS (fun q _ h => h) (fun q h => h) (fun u t H1 locs1 ht hvm hp hB hz hk1 hS1 => ?_)
  rw [hrm.1, hrm.2.1]
  have := hk u hp.1 hp.2 p e s m args below meth cc R Z cx hr H1 locs1 ls (by rw [← ht]; exact hB) hS1 hl
  rw [hp.2] at this
  exact this
end EVA
