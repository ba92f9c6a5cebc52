/-! the start; the law -/
set_option maxRecDepth 100000 in
set_option maxHeartbeats 4000000 in
theorem ini_b2 : ∀ k, ini_s.1 2 k = 0 := fun k => rfl
set_option maxRecDepth 100000 in
set_option maxHeartbeats 4000000 in
theorem ini_b215 : ∀ k, ini_s.1 215 k = 0 := fun k => rfl
theorem gen_ini {s : mm_S} (b2 : ∀ k, s.1 2 k = 0) (b215 : ∀ k, s.1 215 k = 0)
    (f1 : s.1 1 1 = 0 ∧ s.1 214 1 = 0 ∧ s.1 214 23 = -1 ∧ s.1 214 24 = -1 ∧ s.1 214 25 = 0 ∧ s.1 0 4 = 0 ∧ s.1 214 2 = 0) (f2 : s.1 12 1 = 2 ∧ s.1 13 0 = 3 ∧ s.1 13 1 = 33 ∧ s.1 98 1 = 0 ∧ s.1 98 2 = 0 ∧ s.1 214 31 = 0)
    (f3 : ∀ k, k < 5 → s.1 27 k = 0) (f4 : ∀ l, l < 6 → s.1 28 l = 0 ∧ s.1 29 l = 0 ∧ s.1 32 l = 0 ∧ s.1 33 l = 0 ∧ s.1 34 l = -1 ∧ s.1 35 l = 0)
    (f5 : (∀ l, l < 36 → s.1 30 l = 0) ∧ s.1 31 0 = 0 ∧ s.1 31 1 = 0 ∧ s.1 36 0 = 0 ∧ s.1 26 3 = -1 ∧ s.1 26 4 = 0 ∧ s.1 214 21 = -1 ∧ s.1 214 22 = 0) (f6 : ∀ k, k < 121 → s.1 224 k = 0) (f7 : ∀ k, k < 4 → s.1 239 k = 0 ∧ s.1 97 k = 0) : RP s s := by
  refine ⟨0, ⟨f1.2.1.trans f1.1.symm, ⟨0, by omega, f1.1⟩, fun k => (b215 k).trans (b2 k).symm, fun k => ⟨0, by omega, by omega, b2 k⟩⟩, ⟨f1.2.2.1, f1.2.2.2.1, f1.2.2.2.2.1⟩, ⟨by omega, f1.2.2.2.2.2.1, f1.2.2.2.2.2.2, ⟨f2.1, f2.2.1, f2.2.2.1⟩, fun k hk => by omega⟩,
    ⟨fun k hk => f3 k (by omega), fun l hl => ⟨(f4 l hl).1, (f4 l hl).2.1⟩, f5.1, ⟨f5.2.1, f5.2.2.1, f5.2.2.2.1⟩, fun l hl => ⟨(f4 l hl).2.2.1, (f4 l hl).2.2.2.1, (f4 l hl).2.2.2.2.1, (f4 l hl).2.2.2.2.2⟩, fun k hk => ?_, ⟨?_, Or.inl f5.2.2.2.2.1⟩, ?_, ?_⟩,
    ⟨f2.2.2.2.2.1, f2.2.2.2.2.2, 0, by omega, f2.2.2.2.1⟩, fun k hk => ⟨(f7 k hk).1.trans (f7 k hk).2.symm, Or.inl (f7 k hk).2, fun q => ?_⟩⟩
  · rw [Nat.zero_add]; exact f6 k hk
  · rw [f5.2.2.2.2.2.2.1, f5.2.2.2.2.1]
  · rw [f5.2.2.2.2.2.2.2, f5.2.2.2.2.2.1]
  · rw [f5.2.2.2.2.2.1]; decide
  · rw [(f7 k hk).2] at q; exact absurd q (by decide)
theorem RP_ini : RP ini_s ini_s := gen_ini ini_b2 ini_b215 ini_f1 ini_f2 ini_f3 ini_f4 ini_f5 ini_f6 ini_f7
def PUp (a k : Nat) : Prop := 214 ≤ a ∧ a < 900
def PDn (a k : Nat) : Prop := a < 214
theorem RP_keep {σ τ ρ υ : mm_S} (H : RP σ ρ) (g : ag cS σ τ) (g' : ag rS ρ υ) : RP τ υ := by
  obtain ⟨r, h1, h2, h3, h4, h5, h6⟩ := H
  exact ⟨r, RT_keep h1 (ag_mono g (by intro c k; unfold cS; omega)) (ag_mono g' (by intro c k; unfold rS; omega)), RQ_keep h2 (ag_mono g' (by intro c k; unfold rS; omega)),
    RR_keep h3 (ag_mono g (by intro c k; unfold cS; omega)) (ag_mono g' (by intro c k; unfold rS; omega)), PW_keep h4 (ag_mono g (by intro c k; unfold cS; omega)) (ag_mono g' (by intro c k; unfold rS; omega)),
    PA_keep h5 (ag_mono g (by intro c k; unfold cS; omega)) (ag_mono g' (by intro c k; unfold rS; omega)), RI_keep h6 (ag_mono g (by intro c k; unfold cS; omega)) (ag_mono g' (by intro c k; unfold rS; omega))⟩
def RV (σ ρ : mm_S) : Prop := RZ σ ρ ∨ RP σ ρ
theorem RV_keep {σ τ ρ υ : mm_S} (H : RV σ ρ) (g : ag cS σ τ) (g' : ag rS ρ υ) : RV τ υ := by
  rcases H with ⟨r, n, h, m, Y⟩ | H
  · exact Or.inl ⟨r, n, h, m, RY_keep Y g g'⟩
  · exact Or.inr (RP_keep H g g')
def RMV (x : mm_S → Option (Int32 × mm_S)) (y : mm_S → Option (Int32 × mm_S)) : Prop := ∀ σ ρ, RV σ ρ → wp (x σ) (fun r => wp (y ρ) (fun r' => r.1 = r'.1 ∧ RV r.2 r'.2))
theorem RMV_of {x y : mm_S → Option (Int32 × mm_S)} (h : RM x y) (h' : RMP x y) : RMV x y := by
  rintro σ ρ (H | H)
  · exact wp_mono (h σ ρ H) (fun _ q => wp_mono q (fun _ q => ⟨q.1, Or.inl q.2⟩))
  · exact h' σ ρ H
theorem law_step {x y : mm_S → Option (Int32 × mm_S)} (hV : RMV x y) (fx : ∀ σ, ko Prod.snd PUp σ (x σ)) (fy : ∀ σ, ko Prod.snd PDn σ (y σ)) {σ : mm_S} (h : RV σ σ) : ∃ a σ1 σ2, x σ = some (a, σ1) ∧ y σ1 = some (a, σ2) ∧ RV σ2 σ2 := by
  obtain ⟨⟨a, σ1⟩, ex, -⟩ := hV σ σ h
  have f1 := fx σ _ ex
  have h1 : RV σ σ1 := RV_keep h ag_refl (fun a k q => f1.1 a k (by unfold PUp; unfold rS at q; omega))
  obtain ⟨⟨a', σ1'⟩, ex', ⟨a2, σ2⟩, ey, ea, R⟩ := hV σ σ1 h1
  rw [ex] at ex'
  cases ex'
  dsimp only at ea R
  have f2 := fy σ1 _ ey
  refine ⟨a, σ1, σ2, ex, by rw [ea]; exact ey, RV_keep R (fun a k q => f2.1 a k (by unfold PDn; unfold cS at q; omega)) ag_refl⟩
theorem l_feed (a b c d e : Int32) {σ : mm_S} (h : RV σ σ) : ∃ z σ1 σ2, f_X9_feed 0 a b c d e σ = some (z, σ1) ∧ f_X10_feed 214 a b c d e σ1 = some (z, σ2) ∧ RV σ2 σ2 :=
  law_step (x := f_X9_feed 0 a b c d e) (y := f_X10_feed 214 a b c d e) (RMV_of (m_feed a b c d e) (RMQ_P (p_feed a b c d e))) (fun σ => fr_X9_feed (by intro a k q; unfold PUp at q; (repeat' apply And.intro) <;> first | trivial | omega) ko_refl) (fun σ => fr_X10_feed (by intro a k q; unfold PDn at q; (repeat' apply And.intro) <;> first | trivial | omega) ko_refl) h
theorem l_end (a : Int32) {σ : mm_S} (h : RV σ σ) : ∃ z σ1 σ2, f_X9_end 0 a σ = some (z, σ1) ∧ f_X10_end 214 a σ1 = some (z, σ2) ∧ RV σ2 σ2 :=
  law_step (x := f_X9_end 0 a) (y := f_X10_end 214 a) (RMV_of (m_end a) (RMQ_P (p_end a))) (fun σ => fr_X9_end (by intro a k q; unfold PUp at q; (repeat' apply And.intro) <;> first | trivial | omega) ko_refl) (fun σ => fr_X10_end (by intro a k q; unfold PDn at q; (repeat' apply And.intro) <;> first | trivial | omega) ko_refl) h
theorem l_house {σ : mm_S} (h : RV σ σ) : ∃ z σ1 σ2, f_X9_house 0 σ = some (z, σ1) ∧ f_X10_house 214 σ1 = some (z, σ2) ∧ RV σ2 σ2 :=
  law_step (x := f_X9_house 0) (y := f_X10_house 214) (RMV_of (m_house) ((p_house))) (fun σ => fr_X9_house (by intro a k q; unfold PUp at q; (repeat' apply And.intro) <;> first | trivial | omega) ko_refl) (fun σ => fr_X10_house (by intro a k q; unfold PDn at q; (repeat' apply And.intro) <;> first | trivial | omega) ko_refl) h
theorem l_rule {σ : mm_S} (h : RV σ σ) : ∃ z σ1 σ2, f_X9_rule 0 σ = some (z, σ1) ∧ f_X10_rule 214 σ1 = some (z, σ2) ∧ RV σ2 σ2 :=
  law_step (x := f_X9_rule 0) (y := f_X10_rule 214) (RMV_of (m_rule) (RMQ_P (p_rule))) (fun σ => fr_X9_rule (by intro a k q; unfold PUp at q; (repeat' apply And.intro) <;> first | trivial | omega) ko_refl) (fun σ => fr_X10_rule (by intro a k q; unfold PDn at q; (repeat' apply And.intro) <;> first | trivial | omega) ko_refl) h
theorem l_force (a : Int32) {σ : mm_S} (h : RV σ σ) : ∃ z σ1 σ2, f_X9_force 0 a σ = some (z, σ1) ∧ f_X10_force 214 a σ1 = some (z, σ2) ∧ RV σ2 σ2 :=
  law_step (x := f_X9_force 0 a) (y := f_X10_force 214 a) (RMV_of (m_force a) (RMQ_P (p_force a))) (fun σ => fr_X9_force (by intro a k q; unfold PUp at q; (repeat' apply And.intro) <;> first | trivial | omega) ko_refl) (fun σ => fr_X10_force (by intro a k q; unfold PDn at q; (repeat' apply And.intro) <;> first | trivial | omega) ko_refl) h
theorem l_lodger (a b : Int32) {σ : mm_S} (h : RV σ σ) : ∃ z σ1 σ2, f_X9_lodger 0 a b σ = some (z, σ1) ∧ f_X10_lodger 214 a b σ1 = some (z, σ2) ∧ RV σ2 σ2 :=
  law_step (x := f_X9_lodger 0 a b) (y := f_X10_lodger 214 a b) (RMV_of (m_lodger a b) (RMQ_P (p_lodger a b))) (fun σ => fr_X9_lodger (by intro a k q; unfold PUp at q; (repeat' apply And.intro) <;> first | trivial | omega) ko_refl) (fun σ => fr_X10_lodger (by intro a k q; unfold PDn at q; (repeat' apply And.intro) <;> first | trivial | omega) ko_refl) h
theorem l_dear (a b : Int32) {σ : mm_S} (h : RV σ σ) : ∃ z σ1 σ2, f_X9_dear 0 a b σ = some (z, σ1) ∧ f_X10_dear 214 a b σ1 = some (z, σ2) ∧ RV σ2 σ2 :=
  law_step (x := f_X9_dear 0 a b) (y := f_X10_dear 214 a b) (RMV_of (m_dear a b) (RMQ_P (p_dear a b))) (fun σ => fr_X9_dear (by intro a k q; unfold PUp at q; (repeat' apply And.intro) <;> first | trivial | omega) ko_refl) (fun σ => fr_X10_dear (by intro a k q; unfold PDn at q; (repeat' apply And.intro) <;> first | trivial | omega) ko_refl) h
theorem l_hour {σ : mm_S} (h : RV σ σ) : ∃ z σ1 σ2, f_X9_hour 0 σ = some (z, σ1) ∧ f_X10_hour 214 σ1 = some (z, σ2) ∧ RV σ2 σ2 :=
  law_step (x := f_X9_hour 0) (y := f_X10_hour 214) (RMV_of (m_hour) (RMQ_P (p_hour))) (fun σ => fr_X9_hour (by intro a k q; unfold PUp at q; (repeat' apply And.intro) <;> first | trivial | omega) ko_refl) (fun σ => fr_X10_hour (by intro a k q; unfold PDn at q; (repeat' apply And.intro) <;> first | trivial | omega) ko_refl) h
theorem l_bid (a b : Int32) {σ : mm_S} (h : RV σ σ) : ∃ z σ1 σ2, f_X9_bid 0 a b σ = some (z, σ1) ∧ f_X10_bid 214 a b σ1 = some (z, σ2) ∧ RV σ2 σ2 :=
  law_step (x := f_X9_bid 0 a b) (y := f_X10_bid 214 a b) (RMV_of (m_bid a b) (RMQ_P (p_bid a b))) (fun σ => fr_X9_bid (by intro a k q; unfold PUp at q; (repeat' apply And.intro) <;> first | trivial | omega) ko_refl) (fun σ => fr_X10_bid (by intro a k q; unfold PDn at q; (repeat' apply And.intro) <;> first | trivial | omega) ko_refl) h
theorem l_call (a : Int32) {σ : mm_S} (h : RV σ σ) : ∃ z σ1 σ2, f_X9_call 0 a σ = some (z, σ1) ∧ f_X10_call 214 a σ1 = some (z, σ2) ∧ RV σ2 σ2 :=
  law_step (x := f_X9_call 0 a) (y := f_X10_call 214 a) (RMV_of (m_call a) (RMQ_P (p_call a))) (fun σ => fr_X9_call (by intro a k q; unfold PUp at q; (repeat' apply And.intro) <;> first | trivial | omega) ko_refl) (fun σ => fr_X10_call (by intro a k q; unfold PDn at q; (repeat' apply And.intro) <;> first | trivial | omega) ko_refl) h
theorem l_pay (a b c : Int32) {σ : mm_S} (h : RV σ σ) : ∃ z σ1 σ2, f_X9_pay 0 a b c σ = some (z, σ1) ∧ f_X10_pay 214 a b c σ1 = some (z, σ2) ∧ RV σ2 σ2 :=
  law_step (x := f_X9_pay 0 a b c) (y := f_X10_pay 214 a b c) (RMV_of (m_pay a b c) (RMQ_P (p_pay a b c))) (fun σ => fr_X9_pay (by intro a k q; unfold PUp at q; (repeat' apply And.intro) <;> first | trivial | omega) ko_refl) (fun σ => fr_X10_pay (by intro a k q; unfold PDn at q; (repeat' apply And.intro) <;> first | trivial | omega) ko_refl) h
theorem l_tire (a b : Int32) {σ : mm_S} (h : RV σ σ) : ∃ z σ1 σ2, f_X9_tire 0 a b σ = some (z, σ1) ∧ f_X10_tire 214 a b σ1 = some (z, σ2) ∧ RV σ2 σ2 :=
  law_step (x := f_X9_tire 0 a b) (y := f_X10_tire 214 a b) (RMV_of (m_tire a b) (RMQ_P (p_tire a b))) (fun σ => fr_X9_tire (by intro a k q; unfold PUp at q; (repeat' apply And.intro) <;> first | trivial | omega) ko_refl) (fun σ => fr_X10_tire (by intro a k q; unfold PDn at q; (repeat' apply And.intro) <;> first | trivial | omega) ko_refl) h
theorem l_undo {σ : mm_S} (h : RV σ σ) : ∃ z σ1 σ2, f_X9_undo 0 σ = some (z, σ1) ∧ f_X10_undo 214 σ1 = some (z, σ2) ∧ RV σ2 σ2 :=
  law_step (x := f_X9_undo 0) (y := f_X10_undo 214) (RMV_of (m_undo) (RMQ_P (p_undo))) (fun σ => fr_X9_undo (by intro a k q; unfold PUp at q; (repeat' apply And.intro) <;> first | trivial | omega) ko_refl) (fun σ => fr_X10_undo (by intro a k q; unfold PDn at q; (repeat' apply And.intro) <;> first | trivial | omega) ko_refl) h
theorem l_ahead (a b c : Int32) {σ : mm_S} (h : RV σ σ) : ∃ z σ1 σ2, f_X9_ahead 0 a b c σ = some (z, σ1) ∧ f_X10_ahead 214 a b c σ1 = some (z, σ2) ∧ RV σ2 σ2 :=
  law_step (x := f_X9_ahead 0 a b c) (y := f_X10_ahead 214 a b c) (RMV_of (m_ahead a b c) (RMQ_P (p_ahead a b c))) (fun σ => fr_X9_ahead (by intro a k q; unfold PUp at q; (repeat' apply And.intro) <;> first | trivial | omega) ko_refl) (fun σ => fr_X10_ahead (by intro a k q; unfold PDn at q; (repeat' apply And.intro) <;> first | trivial | omega) ko_refl) h
theorem l_rested (a : Int32) {σ : mm_S} (h : RV σ σ) : ∃ z σ1 σ2, f_X9_rested 0 a σ = some (z, σ1) ∧ f_X10_rested 214 a σ1 = some (z, σ2) ∧ RV σ2 σ2 :=
  law_step (x := f_X9_rested 0 a) (y := f_X10_rested 214 a) (RMV_of (m_rested a) (RMQ_P (p_rested a))) (fun σ => fr_X9_rested (by intro a k q; unfold PUp at q; (repeat' apply And.intro) <;> first | trivial | omega) ko_refl) (fun σ => fr_X10_rested (by intro a k q; unfold PDn at q; (repeat' apply And.intro) <;> first | trivial | omega) ko_refl) h
theorem l_chain (a b : Int32) {σ : mm_S} (h : RV σ σ) : ∃ z σ1 σ2, f_X9_chain 0 a b σ = some (z, σ1) ∧ f_X10_chain 214 a b σ1 = some (z, σ2) ∧ RV σ2 σ2 :=
  law_step (x := f_X9_chain 0 a b) (y := f_X10_chain 214 a b) (RMV_of (m_chain a b) (RMQ_P (p_chain a b))) (fun σ => fr_X9_chain (by intro a k q; unfold PUp at q; (repeat' apply And.intro) <;> first | trivial | omega) ko_refl) (fun σ => fr_X10_chain (by intro a k q; unfold PDn at q; (repeat' apply And.intro) <;> first | trivial | omega) ko_refl) h
theorem l_lonely {σ : mm_S} (h : RV σ σ) : ∃ z σ1 σ2, f_X9_lonely 0 σ = some (z, σ1) ∧ f_X10_lonely 214 σ1 = some (z, σ2) ∧ RV σ2 σ2 :=
  law_step (x := f_X9_lonely 0) (y := f_X10_lonely 214) (RMV_of (m_lonely) (RMQ_P (p_lonely))) (fun σ => fr_X9_lonely (by intro a k q; unfold PUp at q; (repeat' apply And.intro) <;> first | trivial | omega) ko_refl) (fun σ => fr_X10_lonely (by intro a k q; unfold PDn at q; (repeat' apply And.intro) <;> first | trivial | omega) ko_refl) h
theorem l_bestRow (a : Int32) {σ : mm_S} (h : RV σ σ) : ∃ z σ1 σ2, f_X9_bestRow 0 a σ = some (z, σ1) ∧ f_X10_bestRow 214 a σ1 = some (z, σ2) ∧ RV σ2 σ2 :=
  law_step (x := f_X9_bestRow 0 a) (y := f_X10_bestRow 214 a) (RMV_of (m_bestRow a) (RMQ_P (p_bestRow a))) (fun σ => fr_X9_bestRow (by intro a k q; unfold PUp at q; (repeat' apply And.intro) <;> first | trivial | omega) ko_refl) (fun σ => fr_X10_bestRow (by intro a k q; unfold PDn at q; (repeat' apply And.intro) <;> first | trivial | omega) ko_refl) h
theorem l_forOne (a b c d : Int32) {σ : mm_S} (h : RV σ σ) : ∃ z σ1 σ2, f_X9_forOne 0 a b c d σ = some (z, σ1) ∧ f_X10_forOne 214 a b c d σ1 = some (z, σ2) ∧ RV σ2 σ2 :=
  law_step (x := f_X9_forOne 0 a b c d) (y := f_X10_forOne 214 a b c d) (RMV_of (m_forOne a b c d) (RMQ_P (p_forOne a b c d))) (fun σ => fr_X9_forOne (by intro a k q; unfold PUp at q; (repeat' apply And.intro) <;> first | trivial | omega) ko_refl) (fun σ => fr_X10_forOne (by intro a k q; unfold PDn at q; (repeat' apply And.intro) <;> first | trivial | omega) ko_refl) h
theorem l_torches (a : Int32) {σ : mm_S} (h : RV σ σ) : ∃ z σ1 σ2, f_X9_torches 0 a σ = some (z, σ1) ∧ f_X10_torches 214 a σ1 = some (z, σ2) ∧ RV σ2 σ2 :=
  law_step (x := f_X9_torches 0 a) (y := f_X10_torches 214 a) (RMV_of (m_torches a) (RMQ_P (p_torches a))) (fun σ => fr_X9_torches (by intro a k q; unfold PUp at q; (repeat' apply And.intro) <;> first | trivial | omega) ko_refl) (fun σ => fr_X10_torches (by intro a k q; unfold PDn at q; (repeat' apply And.intro) <;> first | trivial | omega) ko_refl) h
theorem l_out (a b : Int32) {σ : mm_S} (h : RV σ σ) : ∃ z σ1 σ2, f_X9_out 0 a b σ = some (z, σ1) ∧ f_X10_out 214 a b σ1 = some (z, σ2) ∧ RV σ2 σ2 :=
  law_step (x := f_X9_out 0 a b) (y := f_X10_out 214 a b) (RMV_of (m_out a b) (RMQ_P (p_out a b))) (fun σ => fr_X9_out (by intro a k q; unfold PUp at q; (repeat' apply And.intro) <;> first | trivial | omega) ko_refl) (fun σ => fr_X10_out (by intro a k q; unfold PDn at q; (repeat' apply And.intro) <;> first | trivial | omega) ko_refl) h
theorem l_sleeps (a b : Int32) {σ : mm_S} (h : RV σ σ) : ∃ z σ1 σ2, f_X9_sleeps 0 a b σ = some (z, σ1) ∧ f_X10_sleeps 214 a b σ1 = some (z, σ2) ∧ RV σ2 σ2 :=
  law_step (x := f_X9_sleeps 0 a b) (y := f_X10_sleeps 214 a b) (RMV_of (m_sleeps a b) (RMQ_P (p_sleeps a b))) (fun σ => fr_X9_sleeps (by intro a k q; unfold PUp at q; (repeat' apply And.intro) <;> first | trivial | omega) ko_refl) (fun σ => fr_X10_sleeps (by intro a k q; unfold PDn at q; (repeat' apply And.intro) <;> first | trivial | omega) ko_refl) h
theorem l_ring (a : Int32) {σ : mm_S} (h : RV σ σ) : ∃ z σ1 σ2, f_X9_ring 0 a σ = some (z, σ1) ∧ f_X10_ring 214 a σ1 = some (z, σ2) ∧ RV σ2 σ2 :=
  law_step (x := f_X9_ring 0 a) (y := f_X10_ring 214 a) (RMV_of (m_ring a) (RMQ_P (p_ring a))) (fun σ => fr_X9_ring (by intro a k q; unfold PUp at q; (repeat' apply And.intro) <;> first | trivial | omega) ko_refl) (fun σ => fr_X10_ring (by intro a k q; unfold PDn at q; (repeat' apply And.intro) <;> first | trivial | omega) ko_refl) h
theorem l_pennies (a b : Int32) {σ : mm_S} (h : RV σ σ) : ∃ z σ1 σ2, f_X9_pennies 0 a b σ = some (z, σ1) ∧ f_X10_pennies 214 a b σ1 = some (z, σ2) ∧ RV σ2 σ2 :=
  law_step (x := f_X9_pennies 0 a b) (y := f_X10_pennies 214 a b) (RMV_of (m_pennies a b) (RMQ_P (p_pennies a b))) (fun σ => fr_X9_pennies (by intro a k q; unfold PUp at q; (repeat' apply And.intro) <;> first | trivial | omega) ko_refl) (fun σ => fr_X10_pennies (by intro a k q; unfold PDn at q; (repeat' apply And.intro) <;> first | trivial | omega) ko_refl) h
theorem l_rests (a b c d : Int32) {σ : mm_S} (h : RV σ σ) : ∃ z σ1 σ2, f_X9_rests 0 a b c d σ = some (z, σ1) ∧ f_X10_rests 214 a b c d σ1 = some (z, σ2) ∧ RV σ2 σ2 :=
  law_step (x := f_X9_rests 0 a b c d) (y := f_X10_rests 214 a b c d) (RMV_of (m_rests a b c d) (RMQ_P (p_rests a b c d))) (fun σ => fr_X9_rests (by intro a k q; unfold PUp at q; (repeat' apply And.intro) <;> first | trivial | omega) ko_refl) (fun σ => fr_X10_rests (by intro a k q; unfold PDn at q; (repeat' apply And.intro) <;> first | trivial | omega) ko_refl) h
theorem l_stays (a : Int32) {σ : mm_S} (h : RV σ σ) : ∃ z σ1 σ2, f_X9_stays 0 a σ = some (z, σ1) ∧ f_X10_stays 214 a σ1 = some (z, σ2) ∧ RV σ2 σ2 :=
  law_step (x := f_X9_stays 0 a) (y := f_X10_stays 214 a) (RMV_of (m_stays a) (RMQ_P (p_stays a))) (fun σ => fr_X9_stays (by intro a k q; unfold PUp at q; (repeat' apply And.intro) <;> first | trivial | omega) ko_refl) (fun σ => fr_X10_stays (by intro a k q; unfold PDn at q; (repeat' apply And.intro) <;> first | trivial | omega) ko_refl) h
theorem l_note (a b c : Int32) {σ : mm_S} (h : RV σ σ) : ∃ z σ1 σ2, f_X9_note 0 a b c σ = some (z, σ1) ∧ f_X10_note 214 a b c σ1 = some (z, σ2) ∧ RV σ2 σ2 :=
  law_step (x := f_X9_note 0 a b c) (y := f_X10_note 214 a b c) (RMV_of (m_note a b c) (RMQ_P (p_note a b c))) (fun σ => fr_X9_note (by intro a k q; unfold PUp at q; (repeat' apply And.intro) <;> first | trivial | omega) ko_refl) (fun σ => fr_X10_note (by intro a k q; unfold PDn at q; (repeat' apply And.intro) <;> first | trivial | omega) ko_refl) h
theorem l_ruled (a : Int32) {σ : mm_S} (h : RV σ σ) : ∃ z σ1 σ2, f_X9_ruled 0 a σ = some (z, σ1) ∧ f_X10_ruled 214 a σ1 = some (z, σ2) ∧ RV σ2 σ2 :=
  law_step (x := f_X9_ruled 0 a) (y := f_X10_ruled 214 a) (RMV_of (m_ruled a) (RMQ_P (p_ruled a))) (fun σ => fr_X9_ruled (by intro a k q; unfold PUp at q; (repeat' apply And.intro) <;> first | trivial | omega) ko_refl) (fun σ => fr_X10_ruled (by intro a k q; unfold PDn at q; (repeat' apply And.intro) <;> first | trivial | omega) ko_refl) h
theorem l_look (a : Int32) {σ : mm_S} (h : RV σ σ) : ∃ z σ1 σ2, f_X9_look 0 a σ = some (z, σ1) ∧ f_X10_look 214 a σ1 = some (z, σ2) ∧ RV σ2 σ2 :=
  law_step (x := f_X9_look 0 a) (y := f_X10_look 214 a) (RMV_of (m_look a) (RMQ_P (p_look a))) (fun σ => fr_X9_look (by intro a k q; unfold PUp at q; (repeat' apply And.intro) <;> first | trivial | omega) ko_refl) (fun σ => fr_X10_look (by intro a k q; unfold PDn at q; (repeat' apply And.intro) <;> first | trivial | omega) ko_refl) h
theorem l_seed (a : Int32) {σ : mm_S} (h : RV σ σ) : ∃ z σ1 σ2, f_X9_seed 0 a σ = some (z, σ1) ∧ f_X10_seed 214 a σ1 = some (z, σ2) ∧ RV σ2 σ2 :=
  law_step (x := f_X9_seed 0 a) (y := f_X10_seed 214 a) (RMV_of (m_seed a) (RMQ_P (p_seed a))) (fun σ => fr_X9_seed (by intro a k q; unfold PUp at q; (repeat' apply And.intro) <;> first | trivial | omega) ko_refl) (fun σ => fr_X10_seed (by intro a k q; unfold PDn at q; (repeat' apply And.intro) <;> first | trivial | omega) ko_refl) h
theorem l_strangers (a b c d : Int32) {σ : mm_S} (h : RV σ σ) : ∃ z σ1 σ2, f_X9_strangers 0 a b c d σ = some (z, σ1) ∧ f_X10_strangers 214 a b c d σ1 = some (z, σ2) ∧ RV σ2 σ2 :=
  law_step (x := f_X9_strangers 0 a b c d) (y := f_X10_strangers 214 a b c d) (RMV_of (m_strangers a b c d) (RMQ_P (p_strangers a b c d))) (fun σ => fr_X9_strangers (by intro a k q; unfold PUp at q; (repeat' apply And.intro) <;> first | trivial | omega) ko_refl) (fun σ => fr_X10_strangers (by intro a k q; unfold PDn at q; (repeat' apply And.intro) <;> first | trivial | omega) ko_refl) h
theorem l_count (a : Int32) {σ : mm_S} (h : RV σ σ) : ∃ z σ1 σ2, f_X9_count 0 a σ = some (z, σ1) ∧ f_X10_count 214 a σ1 = some (z, σ2) ∧ RV σ2 σ2 :=
  law_step (x := f_X9_count 0 a) (y := f_X10_count 214 a) (RMV_of (m_count a) (RMQ_P (p_count a))) (fun σ => fr_X9_count (by intro a k q; unfold PUp at q; (repeat' apply And.intro) <;> first | trivial | omega) ko_refl) (fun σ => fr_X10_count (by intro a k q; unfold PDn at q; (repeat' apply And.intro) <;> first | trivial | omega) ko_refl) h
theorem l_image (a : Int32) {σ : mm_S} (h : RV σ σ) : ∃ z σ1 σ2, f_X9_image 0 a σ = some (z, σ1) ∧ f_X10_image 214 a σ1 = some (z, σ2) ∧ RV σ2 σ2 :=
  law_step (x := f_X9_image 0 a) (y := f_X10_image 214 a) (RMV_of (m_image a) (RMQ_P (p_image a))) (fun σ => fr_X9_image (by intro a k q; unfold PUp at q; (repeat' apply And.intro) <;> first | trivial | omega) ko_refl) (fun σ => fr_X10_image (by intro a k q; unfold PDn at q; (repeat' apply And.intro) <;> first | trivial | omega) ko_refl) h
theorem l_back (a : Int32) {σ : mm_S} (h : RV σ σ) : ∃ z σ1 σ2, f_X9_back 0 a σ = some (z, σ1) ∧ f_X10_back 214 a σ1 = some (z, σ2) ∧ RV σ2 σ2 :=
  law_step (x := f_X9_back 0 a) (y := f_X10_back 214 a) (fun σ ρ H => H.elim (m_back a σ ρ) (p_back a σ ρ)) (fun σ => fr_X9_back (by intro a k q; unfold PUp at q; (repeat' apply And.intro) <;> first | trivial | omega) ko_refl) (fun σ => fr_X10_back (by intro a k q; unfold PDn at q; (repeat' apply And.intro) <;> first | trivial | omega) ko_refl) h
theorem law_end {L v : Nat} (hL : L ≤ 3072) (hv : v ≤ 4000) : (Int32.ofNat L - 6 < Int32.ofNat v) ↔ L < v + 6 := by
  by_cases c : 6 ≤ L
  · rw [show (6 : Int32) = Int32.ofNat 6 from rfl, n_sub c, n_lt (by omega) (by omega)]; omega
  · have : L = 0 ∨ L = 1 ∨ L = 2 ∨ L = 3 ∨ L = 4 ∨ L = 5 := by omega
    rw [Int32.lt_iff_toInt_lt, n_int (by omega)]
    rcases this with rfl | rfl | rfl | rfl | rfl | rfl
    · rw [show (Int32.ofNat 0 - 6).toInt = -6 by decide]; omega
    · rw [show (Int32.ofNat 1 - 6).toInt = -5 by decide]; omega
    · rw [show (Int32.ofNat 2 - 6).toInt = -4 by decide]; omega
    · rw [show (Int32.ofNat 3 - 6).toInt = -3 by decide]; omega
    · rw [show (Int32.ofNat 4 - 6).toInt = -2 by decide]; omega
    · rw [show (Int32.ofNat 5 - 6).toInt = -1 by decide]; omega
theorem law_go (L : Nat) (xs : Nat → Int32) (hL : L ≤ 3072) {σ0 : mm_S} (h0 : RV σ0 σ0) : wp (f_L_law_18 L xs 0 214 0 σ0) (fun r => r.1 = 1) := by
  unfold f_L_law_18
  refine wp_lp (fun n v σ => ∃ i, v = Int32.ofNat (6 * i) ∧ 6 * i ≤ L + 5 ∧ n = L + 6 - 6 * i ∧ RV σ σ) ?_ lpN (L + 6) _ _ (Nat.lt_of_le_of_lt (show L + 6 ≤ 4000 by omega) (by decide)) ⟨0, rfl, by omega, by omega, h0⟩
  rintro n rec v σ ⟨i, rfl, hi, rfl, R⟩ hrec
  simp only [law_end hL (show 6 * i ≤ 4000 by omega)]
  by_cases ce : L < 6 * i + 6
  · rw [if_pos ce, wp_some]
  · rw [if_neg ce]
    have e6 : Int32.ofNat (6 * i) + Int32.ofInt 6 = Int32.ofNat (6 * (i + 1)) := n_add (6 * i) 6
    have go : ∀ τ, RV τ τ → wp (rec (Int32.ofNat (6 * (i + 1))) τ) (fun r => r.1 = 1) := fun τ h => hrec (L + 6 - 6 * (i + 1)) _ _ (by omega) ⟨i + 1, rfl, by omega, rfl, h⟩
    have g0 : ∀ y : Option (Int32 × mm_S), gd (Int32.ofNat (6 * i)) L y = y := fun y => gd_n (by omega) (by omega)
    have g1 : ∀ y : Option (Int32 × mm_S), gd (Int32.ofNat (6 * i) + 1) L y = y := fun y => by rw [show Int32.ofNat (6 * i) + 1 = Int32.ofNat (6 * i + 1) from n_add _ 1]; exact gd_n (by omega) (by omega)
    have g2 : ∀ y : Option (Int32 × mm_S), gd (Int32.ofNat (6 * i) + 2) L y = y := fun y => by rw [show Int32.ofNat (6 * i) + 2 = Int32.ofNat (6 * i + 2) from n_add _ 2]; exact gd_n (by omega) (by omega)
    have g3 : ∀ y : Option (Int32 × mm_S), gd (Int32.ofNat (6 * i) + 3) L y = y := fun y => by rw [show Int32.ofNat (6 * i) + 3 = Int32.ofNat (6 * i + 3) from n_add _ 3]; exact gd_n (by omega) (by omega)
    have g4 : ∀ y : Option (Int32 × mm_S), gd (Int32.ofNat (6 * i) + 4) L y = y := fun y => by rw [show Int32.ofNat (6 * i) + 4 = Int32.ofNat (6 * i + 4) from n_add _ 4]; exact gd_n (by omega) (by omega)
    have g5 : ∀ y : Option (Int32 × mm_S), gd (Int32.ofNat (6 * i) + 5) L y = y := fun y => by rw [show Int32.ofNat (6 * i) + 5 = Int32.ofNat (6 * i + 5) from n_add _ 5]; exact gd_n (by omega) (by omega)
    simp only [g0, g1, g2, g3, g4, g5, lt_eq, e6]
    generalize xs (Int32.ofNat (6 * i) + 1).toNatClampNeg = v1
    generalize xs (Int32.ofNat (6 * i) + 2).toNatClampNeg = v2
    generalize xs (Int32.ofNat (6 * i) + 3).toNatClampNeg = v3
    generalize xs (Int32.ofNat (6 * i) + 4).toNatClampNeg = v4
    generalize xs (Int32.ofNat (6 * i) + 5).toNatClampNeg = v5
    generalize xs (Int32.ofNat (6 * i)).toNatClampNeg &&& 63 = x3
    clear g0 g1 g2 g3 g4 g5 e6 hrec
    by_cases c0 : x3 = 0
    · rw [if_pos c0]
      obtain ⟨z, σ1, σ2, ex, ey, R2⟩ := l_feed v1 v2 v3 v4 v5 R
      rw [ex, bd_s, ey, bd_s, if_pos rfl]
      exact go σ2 R2
    rw [if_neg c0]
    by_cases c1 : x3 = 1
    · rw [if_pos c1]
      obtain ⟨z, σ1, σ2, ex, ey, R2⟩ := l_end v1 R
      rw [ex, bd_s, ey, bd_s, if_pos rfl]
      exact go σ2 R2
    rw [if_neg c1]
    by_cases c2 : x3 = 2
    · rw [if_pos c2]
      obtain ⟨z, σ1, σ2, ex, ey, R2⟩ := l_house R
      rw [ex, bd_s, ey, bd_s, if_pos rfl]
      exact go σ2 R2
    rw [if_neg c2]
    by_cases c3 : x3 = 3
    · rw [if_pos c3]
      obtain ⟨z, σ1, σ2, ex, ey, R2⟩ := l_rule R
      rw [ex, bd_s, ey, bd_s, if_pos rfl]
      exact go σ2 R2
    rw [if_neg c3]
    by_cases c4 : x3 = 4
    · rw [if_pos c4]
      obtain ⟨z, σ1, σ2, ex, ey, R2⟩ := l_force v1 R
      rw [ex, bd_s, ey, bd_s, if_pos rfl]
      exact go σ2 R2
    rw [if_neg c4]
    by_cases c5 : x3 = 5
    · rw [if_pos c5]
      obtain ⟨z, σ1, σ2, ex, ey, R2⟩ := l_lodger v1 v2 R
      rw [ex, bd_s, ey, bd_s, if_pos rfl]
      exact go σ2 R2
    rw [if_neg c5]
    by_cases c6 : x3 = 6
    · rw [if_pos c6]
      obtain ⟨z, σ1, σ2, ex, ey, R2⟩ := l_dear v1 v2 R
      rw [ex, bd_s, ey, bd_s, if_pos rfl]
      exact go σ2 R2
    rw [if_neg c6]
    by_cases c7 : x3 = 7
    · rw [if_pos c7]
      obtain ⟨z, σ1, σ2, ex, ey, R2⟩ := l_hour R
      rw [ex, bd_s, ey, bd_s, if_pos rfl]
      exact go σ2 R2
    rw [if_neg c7]
    by_cases c8 : x3 = 8
    · rw [if_pos c8]
      obtain ⟨z, σ1, σ2, ex, ey, R2⟩ := l_bid v1 v2 R
      rw [ex, bd_s, ey, bd_s, if_pos rfl]
      exact go σ2 R2
    rw [if_neg c8]
    by_cases c9 : x3 = 9
    · rw [if_pos c9]
      obtain ⟨z, σ1, σ2, ex, ey, R2⟩ := l_call v1 R
      rw [ex, bd_s, ey, bd_s, if_pos rfl]
      exact go σ2 R2
    rw [if_neg c9]
    by_cases c10 : x3 = 10
    · rw [if_pos c10]
      obtain ⟨z, σ1, σ2, ex, ey, R2⟩ := l_pay v1 v2 v3 R
      rw [ex, bd_s, ey, bd_s, if_pos rfl]
      exact go σ2 R2
    rw [if_neg c10]
    by_cases c11 : x3 = 11
    · rw [if_pos c11]
      obtain ⟨z, σ1, σ2, ex, ey, R2⟩ := l_tire v1 v2 R
      rw [ex, bd_s, ey, bd_s, if_pos rfl]
      exact go σ2 R2
    rw [if_neg c11]
    by_cases c12 : x3 = 12
    · rw [if_pos c12]
      obtain ⟨z, σ1, σ2, ex, ey, R2⟩ := l_undo R
      rw [ex, bd_s, ey, bd_s, if_pos rfl]
      exact go σ2 R2
    rw [if_neg c12]
    by_cases c13 : x3 = 13
    · rw [if_pos c13]
      obtain ⟨z, σ1, σ2, ex, ey, R2⟩ := l_ahead v1 v2 v3 R
      rw [ex, bd_s, ey, bd_s, if_pos rfl]
      exact go σ2 R2
    rw [if_neg c13]
    by_cases c14 : x3 = 14
    · rw [if_pos c14]
      obtain ⟨z, σ1, σ2, ex, ey, R2⟩ := l_rested v1 R
      rw [ex, bd_s, ey, bd_s, if_pos rfl]
      exact go σ2 R2
    rw [if_neg c14]
    by_cases c15 : x3 = 15
    · rw [if_pos c15]
      obtain ⟨z, σ1, σ2, ex, ey, R2⟩ := l_chain v1 v2 R
      rw [ex, bd_s, ey, bd_s, if_pos rfl]
      exact go σ2 R2
    rw [if_neg c15]
    by_cases c16 : x3 = 16
    · rw [if_pos c16]
      obtain ⟨z, σ1, σ2, ex, ey, R2⟩ := l_lonely R
      rw [ex, bd_s, ey, bd_s, if_pos rfl]
      exact go σ2 R2
    rw [if_neg c16]
    by_cases c17 : x3 = 17
    · rw [if_pos c17]
      obtain ⟨z, σ1, σ2, ex, ey, R2⟩ := l_bestRow v1 R
      rw [ex, bd_s, ey, bd_s, if_pos rfl]
      exact go σ2 R2
    rw [if_neg c17]
    by_cases c18 : x3 = 18
    · rw [if_pos c18]
      obtain ⟨z, σ1, σ2, ex, ey, R2⟩ := l_forOne v1 v2 v3 v4 R
      rw [ex, bd_s, ey, bd_s, if_pos rfl]
      exact go σ2 R2
    rw [if_neg c18]
    by_cases c19 : x3 = 19
    · rw [if_pos c19]
      obtain ⟨z, σ1, σ2, ex, ey, R2⟩ := l_torches v1 R
      rw [ex, bd_s, ey, bd_s, if_pos rfl]
      exact go σ2 R2
    rw [if_neg c19]
    by_cases c20 : x3 = 20
    · rw [if_pos c20]
      obtain ⟨z, σ1, σ2, ex, ey, R2⟩ := l_out v1 v2 R
      rw [ex, bd_s, ey, bd_s, if_pos rfl]
      exact go σ2 R2
    rw [if_neg c20]
    by_cases c21 : x3 = 21
    · rw [if_pos c21]
      obtain ⟨z, σ1, σ2, ex, ey, R2⟩ := l_sleeps v1 v2 R
      rw [ex, bd_s, ey, bd_s, if_pos rfl]
      exact go σ2 R2
    rw [if_neg c21]
    by_cases c22 : x3 = 22
    · rw [if_pos c22]
      obtain ⟨z, σ1, σ2, ex, ey, R2⟩ := l_ring v1 R
      rw [ex, bd_s, ey, bd_s, if_pos rfl]
      exact go σ2 R2
    rw [if_neg c22]
    by_cases c23 : x3 = 23
    · rw [if_pos c23]
      obtain ⟨z, σ1, σ2, ex, ey, R2⟩ := l_pennies v1 v2 R
      rw [ex, bd_s, ey, bd_s, if_pos rfl]
      exact go σ2 R2
    rw [if_neg c23]
    by_cases c24 : x3 = 24
    · rw [if_pos c24]
      obtain ⟨z, σ1, σ2, ex, ey, R2⟩ := l_rests v1 v2 v3 v4 R
      rw [ex, bd_s, ey, bd_s, if_pos rfl]
      exact go σ2 R2
    rw [if_neg c24]
    by_cases c25 : x3 = 25
    · rw [if_pos c25]
      obtain ⟨z, σ1, σ2, ex, ey, R2⟩ := l_stays v1 R
      rw [ex, bd_s, ey, bd_s, if_pos rfl]
      exact go σ2 R2
    rw [if_neg c25]
    by_cases c26 : x3 = 26
    · rw [if_pos c26]
      obtain ⟨z, σ1, σ2, ex, ey, R2⟩ := l_note v1 v2 v3 R
      rw [ex, bd_s, ey, bd_s, if_pos rfl]
      exact go σ2 R2
    rw [if_neg c26]
    by_cases c27 : x3 = 27
    · rw [if_pos c27]
      obtain ⟨z, σ1, σ2, ex, ey, R2⟩ := l_ruled v1 R
      rw [ex, bd_s, ey, bd_s, if_pos rfl]
      exact go σ2 R2
    rw [if_neg c27]
    by_cases c28 : x3 = 28
    · rw [if_pos c28]
      obtain ⟨z, σ1, σ2, ex, ey, R2⟩ := l_look v1 R
      rw [ex, bd_s, ey, bd_s, if_pos rfl]
      exact go σ2 R2
    rw [if_neg c28]
    by_cases c29 : x3 = 29
    · rw [if_pos c29]
      obtain ⟨z, σ1, σ2, ex, ey, R2⟩ := l_seed v1 R
      rw [ex, bd_s, ey, bd_s, if_pos rfl]
      exact go σ2 R2
    rw [if_neg c29]
    by_cases c30 : x3 = 30
    · rw [if_pos c30]
      obtain ⟨z, σ1, σ2, ex, ey, R2⟩ := l_strangers v1 v2 v3 v4 R
      rw [ex, bd_s, ey, bd_s, if_pos rfl]
      exact go σ2 R2
    rw [if_neg c30]
    by_cases c31 : x3 = 31
    · rw [if_pos c31]
      obtain ⟨z, σ1, σ2, ex, ey, R2⟩ := l_count v1 R
      rw [ex, bd_s, ey, bd_s, if_pos rfl]
      exact go σ2 R2
    rw [if_neg c31]
    by_cases c32 : x3 = 32
    · rw [if_pos c32]
      obtain ⟨z, σ1, σ2, ex, ey, R2⟩ := l_image v1 R
      rw [ex, bd_s, ey, bd_s, if_pos rfl]
      exact go σ2 R2
    rw [if_neg c32]
    by_cases c33 : x3 = 33
    · rw [if_pos c33]
      obtain ⟨z, σ1, σ2, ex, ey, R2⟩ := l_back v1 R
      rw [ex, bd_s, ey, bd_s, if_pos rfl]
      exact go σ2 R2
    rw [if_neg c33]
    exact go σ R
theorem pure_law (L : Nat) (xs : Nat → Int32) (hL : L ≤ 3072) : ∃ τ, f_L_law_18 L xs 0 214 0 ini_s = some (1, τ) := by
  have h0 : RV ini_s ini_s := Or.inr RP_ini
  generalize ini_s = s at h0 ⊢
  obtain ⟨⟨a, τ⟩, e, h⟩ := law_go L xs hL h0
  dsimp only at h
  exact ⟨τ, by rw [e, h]⟩
