theorem fr_J7_fill_53178_5 {P : Nat → Nat → Prop} {σ0 σ : mm_S} {a0 : Nat} {i1 : Int32} {i2 : Int32} {i3 : Int32} (hP : ∀ a k, P a k → a ≠ a0) (h : ko_K P σ0 σ) : ko id P σ0 (f_J7_fill_53178_5 a0 i1 i2 i3 σ) := by
  unfold f_J7_fill_53178_5
  refine ko_lp (fun rec hrec v τ hτ => ?_) lpN _ _ h
  repeat' with_reducible first
    | assumption
    | refine ko_someV ?_
    | refine ko_someR ?_
    | refine ko_ite ?_ ?_
    | refine ko_gd (fun _ => ?_)
    | refine ko_gz ?_
    | refine ko_gb ?_
    | refine ko_gq ?_
    | refine ko_gl ?_
    | refine ko_lts ?_ (fun _ _ => ?_)
    | refine ko_ltx (fun _ => ?_)
    | refine ko_bd ?_ (fun _ _ _ => ?_)
    | refine ko_bv ?_ (fun _ _ => ?_)
    | refine ko_sui (by assumption) ?_
    | refine ko_suj (by assumption) ?_
    | refine ko_suc (by assumption) ?_
    | refine ko_suw (by assumption) ?_
    | refine ko_none
    | (apply hrec; assumption)
  all_goals (intro a k q; have q2 := hP a k q; clear hP q; have q0_ := q2; clear q2)
  all_goals ((repeat' apply And.intro) <;> first | exact trivial | assumption | exact fun e => absurd e.1 (by assumption))

theorem fr_J7_fill_53178 {P : Nat → Nat → Prop} {σ0 σ : mm_S} {a0 : Nat} {i1 : Int32} (hP : ∀ a k, P a k → a ≠ a0) (h : ko_K P σ0 σ) : ko id P σ0 (f_J7_fill_53178 a0 i1 σ) := by
  unfold f_J7_fill_53178
  repeat' with_reducible first
    | assumption
    | refine ko_someV ?_
    | refine ko_someR ?_
    | refine ko_ite ?_ ?_
    | refine ko_gd (fun _ => ?_)
    | refine ko_gz ?_
    | refine ko_gb ?_
    | refine ko_gq ?_
    | refine ko_gl ?_
    | refine ko_lts ?_ (fun _ _ => ?_)
    | refine ko_ltx (fun _ => ?_)
    | refine ko_bd ?_ (fun _ _ _ => ?_)
    | refine ko_bv ?_ (fun _ _ => ?_)
    | refine ko_sui (by assumption) ?_
    | refine ko_suj (by assumption) ?_
    | refine ko_suc (by assumption) ?_
    | refine ko_suw (by assumption) ?_
    | refine ko_none
    | (refine fr_J7_fill_53178_5 ?_ (by assumption))
  all_goals (intro a k q; have q2 := hP a k q; clear hP q; have q0_ := q2; clear q2)
  all_goals ((repeat' apply And.intro) <;> first | exact trivial | assumption | exact fun e => absurd e.1 (by assumption))

theorem fr_J6_bitCount_0f7a4 {P : Nat → Nat → Prop} {σ0 σ : mm_S} {i0 : Int32} (hP : ∀ a k, P a k → True) (h : ko_K P σ0 σ) : ko Prod.snd P σ0 (f_J6_bitCount_0f7a4 i0 σ) := by
  unfold f_J6_bitCount_0f7a4
  repeat' with_reducible first
    | assumption
    | refine ko_someV ?_
    | refine ko_someR ?_
    | refine ko_ite ?_ ?_
    | refine ko_gd (fun _ => ?_)
    | refine ko_gz ?_
    | refine ko_gb ?_
    | refine ko_gq ?_
    | refine ko_gl ?_
    | refine ko_lts ?_ (fun _ _ => ?_)
    | refine ko_ltx (fun _ => ?_)
    | refine ko_bd ?_ (fun _ _ _ => ?_)
    | refine ko_bv ?_ (fun _ _ => ?_)
    | refine ko_sui (by assumption) ?_
    | refine ko_suj (by assumption) ?_
    | refine ko_suc (by assumption) ?_
    | refine ko_suw (by assumption) ?_
    | refine ko_none
  all_goals (intro a k q; have q2 := hP a k q; clear hP q)
  all_goals ((repeat' apply And.intro) <;> first | exact trivial | assumption)

theorem fr_J6_numberOfTrailingZeros_0f7a4_74 {P : Nat → Nat → Prop} {σ0 σ : mm_S} {i0 : Int32} {i1 : Int32} (hP : ∀ a k, P a k → True) (h : ko_K P σ0 σ) : ko Prod.snd P σ0 (f_J6_numberOfTrailingZeros_0f7a4_74 i0 i1 σ) := by
  unfold f_J6_numberOfTrailingZeros_0f7a4_74
  repeat' with_reducible first
    | assumption
    | refine ko_someV ?_
    | refine ko_someR ?_
    | refine ko_ite ?_ ?_
    | refine ko_gd (fun _ => ?_)
    | refine ko_gz ?_
    | refine ko_gb ?_
    | refine ko_gq ?_
    | refine ko_gl ?_
    | refine ko_lts ?_ (fun _ _ => ?_)
    | refine ko_ltx (fun _ => ?_)
    | refine ko_bd ?_ (fun _ _ _ => ?_)
    | refine ko_bv ?_ (fun _ _ => ?_)
    | refine ko_sui (by assumption) ?_
    | refine ko_suj (by assumption) ?_
    | refine ko_suc (by assumption) ?_
    | refine ko_suw (by assumption) ?_
    | refine ko_none
  all_goals (intro a k q; have q2 := hP a k q; clear hP q)
  all_goals ((repeat' apply And.intro) <;> first | exact trivial | assumption)

theorem fr_J6_numberOfTrailingZeros_0f7a4_62 {P : Nat → Nat → Prop} {σ0 σ : mm_S} {i0 : Int32} {i1 : Int32} (hP : ∀ a k, P a k → True) (h : ko_K P σ0 σ) : ko Prod.snd P σ0 (f_J6_numberOfTrailingZeros_0f7a4_62 i0 i1 σ) := by
  unfold f_J6_numberOfTrailingZeros_0f7a4_62
  repeat' with_reducible first
    | assumption
    | refine ko_someV ?_
    | refine ko_someR ?_
    | refine ko_ite ?_ ?_
    | refine ko_gd (fun _ => ?_)
    | refine ko_gz ?_
    | refine ko_gb ?_
    | refine ko_gq ?_
    | refine ko_gl ?_
    | refine ko_lts ?_ (fun _ _ => ?_)
    | refine ko_ltx (fun _ => ?_)
    | refine ko_bd ?_ (fun _ _ _ => ?_)
    | refine ko_bv ?_ (fun _ _ => ?_)
    | refine ko_sui (by assumption) ?_
    | refine ko_suj (by assumption) ?_
    | refine ko_suc (by assumption) ?_
    | refine ko_suw (by assumption) ?_
    | refine ko_none
    | (refine fr_J6_numberOfTrailingZeros_0f7a4_74 ?_ (by assumption))
  all_goals (intro a k q; have q2 := hP a k q; clear hP q)
  all_goals ((repeat' apply And.intro) <;> first | exact trivial | assumption)

theorem fr_J6_numberOfTrailingZeros_0f7a4_49 {P : Nat → Nat → Prop} {σ0 σ : mm_S} {i0 : Int32} {i1 : Int32} (hP : ∀ a k, P a k → True) (h : ko_K P σ0 σ) : ko Prod.snd P σ0 (f_J6_numberOfTrailingZeros_0f7a4_49 i0 i1 σ) := by
  unfold f_J6_numberOfTrailingZeros_0f7a4_49
  repeat' with_reducible first
    | assumption
    | refine ko_someV ?_
    | refine ko_someR ?_
    | refine ko_ite ?_ ?_
    | refine ko_gd (fun _ => ?_)
    | refine ko_gz ?_
    | refine ko_gb ?_
    | refine ko_gq ?_
    | refine ko_gl ?_
    | refine ko_lts ?_ (fun _ _ => ?_)
    | refine ko_ltx (fun _ => ?_)
    | refine ko_bd ?_ (fun _ _ _ => ?_)
    | refine ko_bv ?_ (fun _ _ => ?_)
    | refine ko_sui (by assumption) ?_
    | refine ko_suj (by assumption) ?_
    | refine ko_suc (by assumption) ?_
    | refine ko_suw (by assumption) ?_
    | refine ko_none
    | (refine fr_J6_numberOfTrailingZeros_0f7a4_62 ?_ (by assumption))
  all_goals (intro a k q; have q2 := hP a k q; clear hP q)
  all_goals ((repeat' apply And.intro) <;> first | exact trivial | assumption)

theorem fr_J6_numberOfTrailingZeros_0f7a4_34 {P : Nat → Nat → Prop} {σ0 σ : mm_S} {i0 : Int32} {i1 : Int32} (hP : ∀ a k, P a k → True) (h : ko_K P σ0 σ) : ko Prod.snd P σ0 (f_J6_numberOfTrailingZeros_0f7a4_34 i0 i1 σ) := by
  unfold f_J6_numberOfTrailingZeros_0f7a4_34
  repeat' with_reducible first
    | assumption
    | refine ko_someV ?_
    | refine ko_someR ?_
    | refine ko_ite ?_ ?_
    | refine ko_gd (fun _ => ?_)
    | refine ko_gz ?_
    | refine ko_gb ?_
    | refine ko_gq ?_
    | refine ko_gl ?_
    | refine ko_lts ?_ (fun _ _ => ?_)
    | refine ko_ltx (fun _ => ?_)
    | refine ko_bd ?_ (fun _ _ _ => ?_)
    | refine ko_bv ?_ (fun _ _ => ?_)
    | refine ko_sui (by assumption) ?_
    | refine ko_suj (by assumption) ?_
    | refine ko_suc (by assumption) ?_
    | refine ko_suw (by assumption) ?_
    | refine ko_none
    | (refine fr_J6_numberOfTrailingZeros_0f7a4_49 ?_ (by assumption))
  all_goals (intro a k q; have q2 := hP a k q; clear hP q)
  all_goals ((repeat' apply And.intro) <;> first | exact trivial | assumption)

theorem fr_J6_numberOfTrailingZeros_0f7a4 {P : Nat → Nat → Prop} {σ0 σ : mm_S} {i0 : Int32} (hP : ∀ a k, P a k → True) (h : ko_K P σ0 σ) : ko Prod.snd P σ0 (f_J6_numberOfTrailingZeros_0f7a4 i0 σ) := by
  unfold f_J6_numberOfTrailingZeros_0f7a4
  repeat' with_reducible first
    | assumption
    | refine ko_someV ?_
    | refine ko_someR ?_
    | refine ko_ite ?_ ?_
    | refine ko_gd (fun _ => ?_)
    | refine ko_gz ?_
    | refine ko_gb ?_
    | refine ko_gq ?_
    | refine ko_gl ?_
    | refine ko_lts ?_ (fun _ _ => ?_)
    | refine ko_ltx (fun _ => ?_)
    | refine ko_bd ?_ (fun _ _ _ => ?_)
    | refine ko_bv ?_ (fun _ _ => ?_)
    | refine ko_sui (by assumption) ?_
    | refine ko_suj (by assumption) ?_
    | refine ko_suc (by assumption) ?_
    | refine ko_suw (by assumption) ?_
    | refine ko_none
    | (refine fr_J6_numberOfTrailingZeros_0f7a4_34 ?_ (by assumption))
  all_goals (intro a k q; have q2 := hP a k q; clear hP q)
  all_goals ((repeat' apply And.intro) <;> first | exact trivial | assumption)

theorem fr_X5_add {P : Nat → Nat → Prop} {σ0 σ : mm_S} {a0 : Nat} {i1 : Int32} (hP : ∀ a k, P a k → a ≠ a0 + 1 ∧ ¬ (a = a0 ∧ k = 1)) (h : ko_K P σ0 σ) : ko id P σ0 (f_X5_add a0 i1 σ) := by
  unfold f_X5_add
  repeat' with_reducible first
    | assumption
    | refine ko_someV ?_
    | refine ko_someR ?_
    | refine ko_ite ?_ ?_
    | refine ko_gd (fun _ => ?_)
    | refine ko_gz ?_
    | refine ko_gb ?_
    | refine ko_gq ?_
    | refine ko_gl ?_
    | refine ko_lts ?_ (fun _ _ => ?_)
    | refine ko_ltx (fun _ => ?_)
    | refine ko_bd ?_ (fun _ _ _ => ?_)
    | refine ko_bv ?_ (fun _ _ => ?_)
    | refine ko_sui (by assumption) ?_
    | refine ko_suj (by assumption) ?_
    | refine ko_suc (by assumption) ?_
    | refine ko_suw (by assumption) ?_
    | refine ko_none
  all_goals (intro a k q; have q2 := hP a k q; clear hP q; obtain ⟨q0_, q1_⟩ := q2)
  all_goals ((repeat' apply And.intro) <;> first | exact trivial | assumption | exact fun e => absurd e.1 (by assumption))

theorem fr_X0_forget {P : Nat → Nat → Prop} {σ0 σ : mm_S} {a0 : Nat} (hP : ∀ a k, P a k → ¬ (a = a0 ∧ k = 2)) (h : ko_K P σ0 σ) : ko id P σ0 (f_X0_forget a0 σ) := by
  unfold f_X0_forget
  repeat' with_reducible first
    | assumption
    | refine ko_someV ?_
    | refine ko_someR ?_
    | refine ko_ite ?_ ?_
    | refine ko_gd (fun _ => ?_)
    | refine ko_gz ?_
    | refine ko_gb ?_
    | refine ko_gq ?_
    | refine ko_gl ?_
    | refine ko_lts ?_ (fun _ _ => ?_)
    | refine ko_ltx (fun _ => ?_)
    | refine ko_bd ?_ (fun _ _ _ => ?_)
    | refine ko_bv ?_ (fun _ _ => ?_)
    | refine ko_sui (by assumption) ?_
    | refine ko_suj (by assumption) ?_
    | refine ko_suc (by assumption) ?_
    | refine ko_suw (by assumption) ?_
    | refine ko_none
  all_goals (intro a k q; have q2 := hP a k q; clear hP q; have q0_ := q2; clear q2)
  all_goals ((repeat' apply And.intro) <;> first | exact trivial | assumption | exact fun e => absurd e.1 (by assumption))

theorem fr_X2_take {P : Nat → Nat → Prop} {σ0 σ : mm_S} {a0 : Nat} {a1 : Nat} (hP : ∀ a k, P a k → ¬ (a = a0 ∧ k = 0) ∧ ¬ (a = a0 ∧ k = 1) ∧ a ≠ a0 + 1 ∧ a ≠ a0 + 2 ∧ a ≠ a0 + 3 ∧ a ≠ a0 + 4) (h : ko_K P σ0 σ) : ko id P σ0 (f_X2_take a0 a1 σ) := by
  unfold f_X2_take
  repeat' with_reducible first
    | assumption
    | refine ko_someV ?_
    | refine ko_someR ?_
    | refine ko_ite ?_ ?_
    | refine ko_gd (fun _ => ?_)
    | refine ko_gz ?_
    | refine ko_gb ?_
    | refine ko_gq ?_
    | refine ko_gl ?_
    | refine ko_lts ?_ (fun _ _ => ?_)
    | refine ko_ltx (fun _ => ?_)
    | refine ko_bd ?_ (fun _ _ _ => ?_)
    | refine ko_bv ?_ (fun _ _ => ?_)
    | refine ko_sui (by assumption) ?_
    | refine ko_suj (by assumption) ?_
    | refine ko_suc (by assumption) ?_
    | refine ko_suw (by assumption) ?_
    | refine ko_none
  all_goals (intro a k q; have q2 := hP a k q; clear hP q; obtain ⟨q0_, q1_, q2_, q3_, q4_, q5_⟩ := q2)
  all_goals ((repeat' apply And.intro) <;> first | exact trivial | assumption | exact fun e => absurd e.1 (by assumption))

theorem fr_X0_keep {P : Nat → Nat → Prop} {σ0 σ : mm_S} {a0 : Nat} {a1 : Nat} (hP : ∀ a k, P a k → ¬ (a = a0 ∧ k = 1) ∧ ¬ (a = a0 ∧ k = 2) ∧ (a < 100 ∨ 200 ≤ a)) (h : ko_K P σ0 σ) : ko id P σ0 (f_X0_keep a0 a1 σ) := by
  unfold f_X0_keep
  repeat' with_reducible first
    | assumption
    | refine ko_someV ?_
    | refine ko_someR ?_
    | refine ko_ite ?_ ?_
    | refine ko_gd (fun _ => ?_)
    | refine ko_gz ?_
    | refine ko_gb ?_
    | refine ko_gq ?_
    | refine ko_gl ?_
    | refine ko_lts ?_ (fun _ _ => ?_)
    | refine ko_ltx (fun _ => ?_)
    | refine ko_bd ?_ (fun _ _ _ => ?_)
    | refine ko_bv ?_ (fun _ _ => ?_)
    | refine ko_sui (by assumption) ?_
    | refine ko_suj (by assumption) ?_
    | refine ko_suc (by assumption) ?_
    | refine ko_suw (by assumption) ?_
    | refine ko_none
    | (refine fr_X2_take ?_ (by assumption))
  all_goals (intro a k q; have q2 := hP a k q; clear hP q; obtain ⟨q0_, q1_, q2_⟩ := q2)
  all_goals ((repeat' apply And.intro) <;> first | exact trivial | assumption | exact fun e => absurd e.1 (by assumption) | (clear q0_ q1_; omega))

theorem fr_X0_putBack {P : Nat → Nat → Prop} {σ0 σ : mm_S} {a0 : Nat} {a1 : Nat} (hP : ∀ a k, P a k → ¬ (a = a0 ∧ k = 1) ∧ ¬ (a = a0 ∧ k = 2) ∧ ¬ (a = a1 ∧ k = 0) ∧ ¬ (a = a1 ∧ k = 1) ∧ a ≠ a1 + 1 ∧ a ≠ a1 + 2 ∧ a ≠ a1 + 3 ∧ a ≠ a1 + 4) (h : ko_K P σ0 σ) : ko id P σ0 (f_X0_putBack a0 a1 σ) := by
  unfold f_X0_putBack
  repeat' with_reducible first
    | assumption
    | refine ko_someV ?_
    | refine ko_someR ?_
    | refine ko_ite ?_ ?_
    | refine ko_gd (fun _ => ?_)
    | refine ko_gz ?_
    | refine ko_gb ?_
    | refine ko_gq ?_
    | refine ko_gl ?_
    | refine ko_lts ?_ (fun _ _ => ?_)
    | refine ko_ltx (fun _ => ?_)
    | refine ko_bd ?_ (fun _ _ _ => ?_)
    | refine ko_bv ?_ (fun _ _ => ?_)
    | refine ko_sui (by assumption) ?_
    | refine ko_suj (by assumption) ?_
    | refine ko_suc (by assumption) ?_
    | refine ko_suw (by assumption) ?_
    | refine ko_none
    | (refine fr_X2_take ?_ (by assumption))
  all_goals (intro a k q; have q2 := hP a k q; clear hP q; obtain ⟨q0_, q1_, q2_, q3_, q4_, q5_, q6_, q7_⟩ := q2)
  all_goals ((repeat' apply And.intro) <;> first | exact trivial | assumption | exact fun e => absurd e.1 (by assumption))

theorem fr_X1_empty {P : Nat → Nat → Prop} {σ0 σ : mm_S} {a0 : Nat} (hP : ∀ a k, P a k → ¬ (a = a0 ∧ k = 0) ∧ ¬ (a = a0 ∧ k = 1) ∧ ¬ (a = a0 ∧ k = 2) ∧ ¬ (a = a0 ∧ k = 3) ∧ ¬ (a = a0 ∧ k = 4) ∧ a ≠ a0 + 1 ∧ a ≠ a0 + 2 ∧ a ≠ a0 + 3) (h : ko_K P σ0 σ) : ko id P σ0 (f_X1_empty a0 σ) := by
  unfold f_X1_empty
  repeat' with_reducible first
    | assumption
    | refine ko_someV ?_
    | refine ko_someR ?_
    | refine ko_ite ?_ ?_
    | refine ko_gd (fun _ => ?_)
    | refine ko_gz ?_
    | refine ko_gb ?_
    | refine ko_gq ?_
    | refine ko_gl ?_
    | refine ko_lts ?_ (fun _ _ => ?_)
    | refine ko_ltx (fun _ => ?_)
    | refine ko_bd ?_ (fun _ _ _ => ?_)
    | refine ko_bv ?_ (fun _ _ => ?_)
    | refine ko_sui (by assumption) ?_
    | refine ko_suj (by assumption) ?_
    | refine ko_suc (by assumption) ?_
    | refine ko_suw (by assumption) ?_
    | refine ko_none
    | (refine fr_J7_fill_53178 ?_ (by assumption))
  all_goals (intro a k q; have q2 := hP a k q; clear hP q; obtain ⟨q0_, q1_, q2_, q3_, q4_, q5_, q6_, q7_⟩ := q2)
  all_goals ((repeat' apply And.intro) <;> first | exact trivial | assumption | exact fun e => absurd e.1 (by assumption))

theorem fr_X1_take {P : Nat → Nat → Prop} {σ0 σ : mm_S} {a0 : Nat} {a1 : Nat} (hP : ∀ a k, P a k → ¬ (a = a0 ∧ k = 0) ∧ ¬ (a = a0 ∧ k = 1) ∧ ¬ (a = a0 ∧ k = 2) ∧ ¬ (a = a0 ∧ k = 3) ∧ ¬ (a = a0 ∧ k = 4) ∧ a ≠ a0 + 1 ∧ a ≠ a0 + 2 ∧ a ≠ a0 + 3) (h : ko_K P σ0 σ) : ko id P σ0 (f_X1_take a0 a1 σ) := by
  unfold f_X1_take
  repeat' with_reducible first
    | assumption
    | refine ko_someV ?_
    | refine ko_someR ?_
    | refine ko_ite ?_ ?_
    | refine ko_gd (fun _ => ?_)
    | refine ko_gz ?_
    | refine ko_gb ?_
    | refine ko_gq ?_
    | refine ko_gl ?_
    | refine ko_lts ?_ (fun _ _ => ?_)
    | refine ko_ltx (fun _ => ?_)
    | refine ko_bd ?_ (fun _ _ _ => ?_)
    | refine ko_bv ?_ (fun _ _ => ?_)
    | refine ko_sui (by assumption) ?_
    | refine ko_suj (by assumption) ?_
    | refine ko_suc (by assumption) ?_
    | refine ko_suw (by assumption) ?_
    | refine ko_none
  all_goals (intro a k q; have q2 := hP a k q; clear hP q; obtain ⟨q0_, q1_, q2_, q3_, q4_, q5_, q6_, q7_⟩ := q2)
  all_goals ((repeat' apply And.intro) <;> first | exact trivial | assumption | exact fun e => absurd e.1 (by assumption))

theorem fr_X1_addLodger {P : Nat → Nat → Prop} {σ0 σ : mm_S} {a0 : Nat} {i1 : Int32} {i2 : Int32} (hP : ∀ a k, P a k → a ≠ a0 + 1 ∧ a ≠ a0 + 2 ∧ ¬ (a = a0 ∧ k = 3)) (h : ko_K P σ0 σ) : ko id P σ0 (f_X1_addLodger a0 i1 i2 σ) := by
  unfold f_X1_addLodger
  repeat' with_reducible first
    | assumption
    | refine ko_someV ?_
    | refine ko_someR ?_
    | refine ko_ite ?_ ?_
    | refine ko_gd (fun _ => ?_)
    | refine ko_gz ?_
    | refine ko_gb ?_
    | refine ko_gq ?_
    | refine ko_gl ?_
    | refine ko_lts ?_ (fun _ _ => ?_)
    | refine ko_ltx (fun _ => ?_)
    | refine ko_bd ?_ (fun _ _ _ => ?_)
    | refine ko_bv ?_ (fun _ _ => ?_)
    | refine ko_sui (by assumption) ?_
    | refine ko_suj (by assumption) ?_
    | refine ko_suc (by assumption) ?_
    | refine ko_suw (by assumption) ?_
    | refine ko_none
  all_goals (intro a k q; have q2 := hP a k q; clear hP q; obtain ⟨q0_, q1_, q2_⟩ := q2)
  all_goals ((repeat' apply And.intro) <;> first | exact trivial | assumption | exact fun e => absurd e.1 (by assumption))

theorem fr_X1_setDearness {P : Nat → Nat → Prop} {σ0 σ : mm_S} {a0 : Nat} {i1 : Int32} {i2 : Int32} {i3 : Int32} (hP : ∀ a k, P a k → a ≠ a0 + 3) (h : ko_K P σ0 σ) : ko id P σ0 (f_X1_setDearness a0 i1 i2 i3 σ) := by
  unfold f_X1_setDearness
  repeat' with_reducible first
    | assumption
    | refine ko_someV ?_
    | refine ko_someR ?_
    | refine ko_ite ?_ ?_
    | refine ko_gd (fun _ => ?_)
    | refine ko_gz ?_
    | refine ko_gb ?_
    | refine ko_gq ?_
    | refine ko_gl ?_
    | refine ko_lts ?_ (fun _ _ => ?_)
    | refine ko_ltx (fun _ => ?_)
    | refine ko_bd ?_ (fun _ _ _ => ?_)
    | refine ko_bv ?_ (fun _ _ => ?_)
    | refine ko_sui (by assumption) ?_
    | refine ko_suj (by assumption) ?_
    | refine ko_suc (by assumption) ?_
    | refine ko_suw (by assumption) ?_
    | refine ko_none
  all_goals (intro a k q; have q2 := hP a k q; clear hP q; have q0_ := q2; clear q2)
  all_goals ((repeat' apply And.intro) <;> first | exact trivial | assumption | exact fun e => absurd e.1 (by assumption))

theorem fr_X1_dearness {P : Nat → Nat → Prop} {σ0 σ : mm_S} {a0 : Nat} {i1 : Int32} {i2 : Int32} (hP : ∀ a k, P a k → True) (h : ko_K P σ0 σ) : ko Prod.snd P σ0 (f_X1_dearness a0 i1 i2 σ) := by
  unfold f_X1_dearness
  repeat' with_reducible first
    | assumption
    | refine ko_someV ?_
    | refine ko_someR ?_
    | refine ko_ite ?_ ?_
    | refine ko_gd (fun _ => ?_)
    | refine ko_gz ?_
    | refine ko_gb ?_
    | refine ko_gq ?_
    | refine ko_gl ?_
    | refine ko_lts ?_ (fun _ _ => ?_)
    | refine ko_ltx (fun _ => ?_)
    | refine ko_bd ?_ (fun _ _ _ => ?_)
    | refine ko_bv ?_ (fun _ _ => ?_)
    | refine ko_sui (by assumption) ?_
    | refine ko_suj (by assumption) ?_
    | refine ko_suc (by assumption) ?_
    | refine ko_suw (by assumption) ?_
    | refine ko_none
  all_goals (intro a k q; have q2 := hP a k q; clear hP q)
  all_goals ((repeat' apply And.intro) <;> first | exact trivial | assumption)

theorem fr_X1_countsAt {P : Nat → Nat → Prop} {σ0 σ : mm_S} {a0 : Nat} {i1 : Int32} (hP : ∀ a k, P a k → True) (h : ko_K P σ0 σ) : ko Prod.snd P σ0 (f_X1_countsAt a0 i1 σ) := by
  unfold f_X1_countsAt
  repeat' with_reducible first
    | assumption
    | refine ko_someV ?_
    | refine ko_someR ?_
    | refine ko_ite ?_ ?_
    | refine ko_gd (fun _ => ?_)
    | refine ko_gz ?_
    | refine ko_gb ?_
    | refine ko_gq ?_
    | refine ko_gl ?_
    | refine ko_lts ?_ (fun _ _ => ?_)
    | refine ko_ltx (fun _ => ?_)
    | refine ko_bd ?_ (fun _ _ _ => ?_)
    | refine ko_bv ?_ (fun _ _ => ?_)
    | refine ko_sui (by assumption) ?_
    | refine ko_suj (by assumption) ?_
    | refine ko_suc (by assumption) ?_
    | refine ko_suw (by assumption) ?_
    | refine ko_none
  all_goals (intro a k q; have q2 := hP a k q; clear hP q)
  all_goals ((repeat' apply And.intro) <;> first | exact trivial | assumption)

theorem fr_X2_begin {P : Nat → Nat → Prop} {σ0 σ : mm_S} {a0 : Nat} {a1 : Nat} (hP : ∀ a k, P a k → ¬ (a = a0 ∧ k = 0) ∧ ¬ (a = a0 ∧ k = 1) ∧ a ≠ a0 + 1 ∧ a ≠ a0 + 2 ∧ a ≠ a0 + 3 ∧ a ≠ a0 + 4) (h : ko_K P σ0 σ) : ko id P σ0 (f_X2_begin a0 a1 σ) := by
  unfold f_X2_begin
  repeat' with_reducible first
    | assumption
    | refine ko_someV ?_
    | refine ko_someR ?_
    | refine ko_ite ?_ ?_
    | refine ko_gd (fun _ => ?_)
    | refine ko_gz ?_
    | refine ko_gb ?_
    | refine ko_gq ?_
    | refine ko_gl ?_
    | refine ko_lts ?_ (fun _ _ => ?_)
    | refine ko_ltx (fun _ => ?_)
    | refine ko_bd ?_ (fun _ _ _ => ?_)
    | refine ko_bv ?_ (fun _ _ => ?_)
    | refine ko_sui (by assumption) ?_
    | refine ko_suj (by assumption) ?_
    | refine ko_suc (by assumption) ?_
    | refine ko_suw (by assumption) ?_
    | refine ko_none
    | (refine fr_J7_fill_53178 ?_ (by assumption))
  all_goals (intro a k q; have q2 := hP a k q; clear hP q; obtain ⟨q0_, q1_, q2_, q3_, q4_, q5_⟩ := q2)
  all_goals ((repeat' apply And.intro) <;> first | exact trivial | assumption | exact fun e => absurd e.1 (by assumption))

theorem fr_X2_isIn {P : Nat → Nat → Prop} {σ0 σ : mm_S} {a0 : Nat} {i1 : Int32} (hP : ∀ a k, P a k → True) (h : ko_K P σ0 σ) : ko Prod.snd P σ0 (f_X2_isIn a0 i1 σ) := by
  unfold f_X2_isIn
  repeat' with_reducible first
    | assumption
    | refine ko_someV ?_
    | refine ko_someR ?_
    | refine ko_ite ?_ ?_
    | refine ko_gd (fun _ => ?_)
    | refine ko_gz ?_
    | refine ko_gb ?_
    | refine ko_gq ?_
    | refine ko_gl ?_
    | refine ko_lts ?_ (fun _ _ => ?_)
    | refine ko_ltx (fun _ => ?_)
    | refine ko_bd ?_ (fun _ _ _ => ?_)
    | refine ko_bv ?_ (fun _ _ => ?_)
    | refine ko_sui (by assumption) ?_
    | refine ko_suj (by assumption) ?_
    | refine ko_suc (by assumption) ?_
    | refine ko_suw (by assumption) ?_
    | refine ko_none
  all_goals (intro a k q; have q2 := hP a k q; clear hP q)
  all_goals ((repeat' apply And.intro) <;> first | exact trivial | assumption)

theorem fr_X2_sought_4 {P : Nat → Nat → Prop} {σ0 σ : mm_S} {a0 : Nat} {i1 : Int32} {i2 : Int32} (hP : ∀ a k, P a k → True) (h : ko_K P σ0 σ) : ko Prod.snd P σ0 (f_X2_sought_4 a0 i1 i2 σ) := by
  unfold f_X2_sought_4
  refine ko_lp (fun rec hrec v τ hτ => ?_) lpN _ _ h
  repeat' with_reducible first
    | assumption
    | refine ko_someV ?_
    | refine ko_someR ?_
    | refine ko_ite ?_ ?_
    | refine ko_gd (fun _ => ?_)
    | refine ko_gz ?_
    | refine ko_gb ?_
    | refine ko_gq ?_
    | refine ko_gl ?_
    | refine ko_lts ?_ (fun _ _ => ?_)
    | refine ko_ltx (fun _ => ?_)
    | refine ko_bd ?_ (fun _ _ _ => ?_)
    | refine ko_bv ?_ (fun _ _ => ?_)
    | refine ko_sui (by assumption) ?_
    | refine ko_suj (by assumption) ?_
    | refine ko_suc (by assumption) ?_
    | refine ko_suw (by assumption) ?_
    | refine ko_none
    | (apply hrec; assumption)
  all_goals (intro a k q; have q2 := hP a k q; clear hP q)
  all_goals ((repeat' apply And.intro) <;> first | exact trivial | assumption)

theorem fr_X2_sought {P : Nat → Nat → Prop} {σ0 σ : mm_S} {a0 : Nat} (hP : ∀ a k, P a k → True) (h : ko_K P σ0 σ) : ko Prod.snd P σ0 (f_X2_sought a0 σ) := by
  unfold f_X2_sought
  repeat' with_reducible first
    | assumption
    | refine ko_someV ?_
    | refine ko_someR ?_
    | refine ko_ite ?_ ?_
    | refine ko_gd (fun _ => ?_)
    | refine ko_gz ?_
    | refine ko_gb ?_
    | refine ko_gq ?_
    | refine ko_gl ?_
    | refine ko_lts ?_ (fun _ _ => ?_)
    | refine ko_ltx (fun _ => ?_)
    | refine ko_bd ?_ (fun _ _ _ => ?_)
    | refine ko_bv ?_ (fun _ _ => ?_)
    | refine ko_sui (by assumption) ?_
    | refine ko_suj (by assumption) ?_
    | refine ko_suc (by assumption) ?_
    | refine ko_suw (by assumption) ?_
    | refine ko_none
    | (refine fr_X2_sought_4 ?_ (by assumption))
  all_goals (intro a k q; have q2 := hP a k q; clear hP q)
  all_goals ((repeat' apply And.intro) <;> first | exact trivial | assumption)

theorem fr_X2_figure_7 {P : Nat → Nat → Prop} {σ0 σ : mm_S} {a0 : Nat} {i1 : Int32} {i2 : Int32} (hP : ∀ a k, P a k → True) (h : ko_K P σ0 σ) : ko Prod.snd P σ0 (f_X2_figure_7 a0 i1 i2 σ) := by
  unfold f_X2_figure_7
  refine ko_lp (fun rec hrec v τ hτ => ?_) lpN _ _ h
  repeat' with_reducible first
    | assumption
    | refine ko_someV ?_
    | refine ko_someR ?_
    | refine ko_ite ?_ ?_
    | refine ko_gd (fun _ => ?_)
    | refine ko_gz ?_
    | refine ko_gb ?_
    | refine ko_gq ?_
    | refine ko_gl ?_
    | refine ko_lts ?_ (fun _ _ => ?_)
    | refine ko_ltx (fun _ => ?_)
    | refine ko_bd ?_ (fun _ _ _ => ?_)
    | refine ko_bv ?_ (fun _ _ => ?_)
    | refine ko_sui (by assumption) ?_
    | refine ko_suj (by assumption) ?_
    | refine ko_suc (by assumption) ?_
    | refine ko_suw (by assumption) ?_
    | refine ko_none
    | (apply hrec; assumption)
  all_goals (intro a k q; have q2 := hP a k q; clear hP q)
  all_goals ((repeat' apply And.intro) <;> first | exact trivial | assumption)

theorem fr_X2_figure {P : Nat → Nat → Prop} {σ0 σ : mm_S} {a0 : Nat} (hP : ∀ a k, P a k → True) (h : ko_K P σ0 σ) : ko Prod.snd P σ0 (f_X2_figure a0 σ) := by
  unfold f_X2_figure
  repeat' with_reducible first
    | assumption
    | refine ko_someV ?_
    | refine ko_someR ?_
    | refine ko_ite ?_ ?_
    | refine ko_gd (fun _ => ?_)
    | refine ko_gz ?_
    | refine ko_gb ?_
    | refine ko_gq ?_
    | refine ko_gl ?_
    | refine ko_lts ?_ (fun _ _ => ?_)
    | refine ko_ltx (fun _ => ?_)
    | refine ko_bd ?_ (fun _ _ _ => ?_)
    | refine ko_bv ?_ (fun _ _ => ?_)
    | refine ko_sui (by assumption) ?_
    | refine ko_suj (by assumption) ?_
    | refine ko_suc (by assumption) ?_
    | refine ko_suw (by assumption) ?_
    | refine ko_none
    | (refine fr_X2_figure_7 ?_ (by assumption))
  all_goals (intro a k q; have q2 := hP a k q; clear hP q)
  all_goals ((repeat' apply And.intro) <;> first | exact trivial | assumption)

theorem fr_X2_tireBy {P : Nat → Nat → Prop} {σ0 σ : mm_S} {a0 : Nat} {i1 : Int32} {i2 : Int32} (hP : ∀ a k, P a k → a ≠ a0 + 1) (h : ko_K P σ0 σ) : ko id P σ0 (f_X2_tireBy a0 i1 i2 σ) := by
  unfold f_X2_tireBy
  repeat' with_reducible first
    | assumption
    | refine ko_someV ?_
    | refine ko_someR ?_
    | refine ko_ite ?_ ?_
    | refine ko_gd (fun _ => ?_)
    | refine ko_gz ?_
    | refine ko_gb ?_
    | refine ko_gq ?_
    | refine ko_gl ?_
    | refine ko_lts ?_ (fun _ _ => ?_)
    | refine ko_ltx (fun _ => ?_)
    | refine ko_bd ?_ (fun _ _ _ => ?_)
    | refine ko_bv ?_ (fun _ _ => ?_)
    | refine ko_sui (by assumption) ?_
    | refine ko_suj (by assumption) ?_
    | refine ko_suc (by assumption) ?_
    | refine ko_suw (by assumption) ?_
    | refine ko_none
  all_goals (intro a k q; have q2 := hP a k q; clear hP q; have q0_ := q2; clear q2)
  all_goals ((repeat' apply And.intro) <;> first | exact trivial | assumption | exact fun e => absurd e.1 (by assumption))

theorem fr_X2_give {P : Nat → Nat → Prop} {σ0 σ : mm_S} {a0 : Nat} {i1 : Int32} {i2 : Int32} {i3 : Int32} (hP : ∀ a k, P a k → a ≠ a0 + 2) (h : ko_K P σ0 σ) : ko id P σ0 (f_X2_give a0 i1 i2 i3 σ) := by
  unfold f_X2_give
  repeat' with_reducible first
    | assumption
    | refine ko_someV ?_
    | refine ko_someR ?_
    | refine ko_ite ?_ ?_
    | refine ko_gd (fun _ => ?_)
    | refine ko_gz ?_
    | refine ko_gb ?_
    | refine ko_gq ?_
    | refine ko_gl ?_
    | refine ko_lts ?_ (fun _ _ => ?_)
    | refine ko_ltx (fun _ => ?_)
    | refine ko_bd ?_ (fun _ _ _ => ?_)
    | refine ko_bv ?_ (fun _ _ => ?_)
    | refine ko_sui (by assumption) ?_
    | refine ko_suj (by assumption) ?_
    | refine ko_suc (by assumption) ?_
    | refine ko_suw (by assumption) ?_
    | refine ko_none
  all_goals (intro a k q; have q2 := hP a k q; clear hP q; have q0_ := q2; clear q2)
  all_goals ((repeat' apply And.intro) <;> first | exact trivial | assumption | exact fun e => absurd e.1 (by assumption))

theorem fr_X3_take {P : Nat → Nat → Prop} {σ0 σ : mm_S} {a0 : Nat} {a1 : Nat} (hP : ∀ a k, P a k → ¬ (a = a0 ∧ k = 0) ∧ a ≠ a0 + 1 ∧ a ≠ a0 + 2 ∧ a ≠ a0 + 3) (h : ko_K P σ0 σ) : ko id P σ0 (f_X3_take a0 a1 σ) := by
  unfold f_X3_take
  repeat' with_reducible first
    | assumption
    | refine ko_someV ?_
    | refine ko_someR ?_
    | refine ko_ite ?_ ?_
    | refine ko_gd (fun _ => ?_)
    | refine ko_gz ?_
    | refine ko_gb ?_
    | refine ko_gq ?_
    | refine ko_gl ?_
    | refine ko_lts ?_ (fun _ _ => ?_)
    | refine ko_ltx (fun _ => ?_)
    | refine ko_bd ?_ (fun _ _ _ => ?_)
    | refine ko_bv ?_ (fun _ _ => ?_)
    | refine ko_sui (by assumption) ?_
    | refine ko_suj (by assumption) ?_
    | refine ko_suc (by assumption) ?_
    | refine ko_suw (by assumption) ?_
    | refine ko_none
  all_goals (intro a k q; have q2 := hP a k q; clear hP q; obtain ⟨q0_, q1_, q2_, q3_⟩ := q2)
  all_goals ((repeat' apply And.intro) <;> first | exact trivial | assumption | exact fun e => absurd e.1 (by assumption))

theorem fr_X3_add {P : Nat → Nat → Prop} {σ0 σ : mm_S} {a0 : Nat} {i1 : Int32} {i2 : Int32} {i3 : Int32} (hP : ∀ a k, P a k → a ≠ a0 + 1 ∧ a ≠ a0 + 2 ∧ a ≠ a0 + 3 ∧ ¬ (a = a0 ∧ k = 0)) (h : ko_K P σ0 σ) : ko id P σ0 (f_X3_add a0 i1 i2 i3 σ) := by
  unfold f_X3_add
  repeat' with_reducible first
    | assumption
    | refine ko_someV ?_
    | refine ko_someR ?_
    | refine ko_ite ?_ ?_
    | refine ko_gd (fun _ => ?_)
    | refine ko_gz ?_
    | refine ko_gb ?_
    | refine ko_gq ?_
    | refine ko_gl ?_
    | refine ko_lts ?_ (fun _ _ => ?_)
    | refine ko_ltx (fun _ => ?_)
    | refine ko_bd ?_ (fun _ _ _ => ?_)
    | refine ko_bv ?_ (fun _ _ => ?_)
    | refine ko_sui (by assumption) ?_
    | refine ko_suj (by assumption) ?_
    | refine ko_suc (by assumption) ?_
    | refine ko_suw (by assumption) ?_
    | refine ko_none
  all_goals (intro a k q; have q2 := hP a k q; clear hP q; obtain ⟨q0_, q1_, q2_, q3_⟩ := q2)
  all_goals ((repeat' apply And.intro) <;> first | exact trivial | assumption | exact fun e => absurd e.1 (by assumption))

theorem fr_X3_areSo_2 {P : Nat → Nat → Prop} {σ0 σ : mm_S} {a0 : Nat} {a1 : Nat} {i2 : Int32} {i3 : Int32} (hP : ∀ a k, P a k → True) (h : ko_K P σ0 σ) : ko Prod.snd P σ0 (f_X3_areSo_2 a0 a1 i2 i3 σ) := by
  unfold f_X3_areSo_2
  refine ko_lp (fun rec hrec v τ hτ => ?_) lpN _ _ h
  repeat' with_reducible first
    | assumption
    | refine ko_someV ?_
    | refine ko_someR ?_
    | refine ko_ite ?_ ?_
    | refine ko_gd (fun _ => ?_)
    | refine ko_gz ?_
    | refine ko_gb ?_
    | refine ko_gq ?_
    | refine ko_gl ?_
    | refine ko_lts ?_ (fun _ _ => ?_)
    | refine ko_ltx (fun _ => ?_)
    | refine ko_bd ?_ (fun _ _ _ => ?_)
    | refine ko_bv ?_ (fun _ _ => ?_)
    | refine ko_sui (by assumption) ?_
    | refine ko_suj (by assumption) ?_
    | refine ko_suc (by assumption) ?_
    | refine ko_suw (by assumption) ?_
    | refine ko_none
    | (apply hrec; assumption)
  all_goals (intro a k q; have q2 := hP a k q; clear hP q)
  all_goals ((repeat' apply And.intro) <;> first | exact trivial | assumption)

theorem fr_X3_areSo {P : Nat → Nat → Prop} {σ0 σ : mm_S} {a0 : Nat} {a1 : Nat} {i2 : Int32} (hP : ∀ a k, P a k → True) (h : ko_K P σ0 σ) : ko Prod.snd P σ0 (f_X3_areSo a0 a1 i2 σ) := by
  unfold f_X3_areSo
  repeat' with_reducible first
    | assumption
    | refine ko_someV ?_
    | refine ko_someR ?_
    | refine ko_ite ?_ ?_
    | refine ko_gd (fun _ => ?_)
    | refine ko_gz ?_
    | refine ko_gb ?_
    | refine ko_gq ?_
    | refine ko_gl ?_
    | refine ko_lts ?_ (fun _ _ => ?_)
    | refine ko_ltx (fun _ => ?_)
    | refine ko_bd ?_ (fun _ _ _ => ?_)
    | refine ko_bv ?_ (fun _ _ => ?_)
    | refine ko_sui (by assumption) ?_
    | refine ko_suj (by assumption) ?_
    | refine ko_suc (by assumption) ?_
    | refine ko_suw (by assumption) ?_
    | refine ko_none
    | (refine fr_X3_areSo_2 ?_ (by assumption))
  all_goals (intro a k q; have q2 := hP a k q; clear hP q)
  all_goals ((repeat' apply And.intro) <;> first | exact trivial | assumption)

theorem fr_X6_addNumber_3 {P : Nat → Nat → Prop} {σ0 σ : mm_S} {a0 : Nat} {i1 : Int32} {i2 : Int32} (hP : ∀ a k, P a k → a ≠ 2 ∧ ¬ (a = a0 ∧ k = 1)) (h : ko_K P σ0 σ) : ko id P σ0 (f_X6_addNumber_3 a0 i1 i2 σ) := by
  unfold f_X6_addNumber_3
  refine ko_lp (fun rec hrec v τ hτ => ?_) lpN _ _ h
  repeat' with_reducible first
    | assumption
    | refine ko_someV ?_
    | refine ko_someR ?_
    | refine ko_ite ?_ ?_
    | refine ko_gd (fun _ => ?_)
    | refine ko_gz ?_
    | refine ko_gb ?_
    | refine ko_gq ?_
    | refine ko_gl ?_
    | refine ko_lts ?_ (fun _ _ => ?_)
    | refine ko_ltx (fun _ => ?_)
    | refine ko_bd ?_ (fun _ _ _ => ?_)
    | refine ko_bv ?_ (fun _ _ => ?_)
    | refine ko_sui (by assumption) ?_
    | refine ko_suj (by assumption) ?_
    | refine ko_suc (by assumption) ?_
    | refine ko_suw (by assumption) ?_
    | refine ko_none
    | (apply hrec; assumption)
  all_goals (intro a k q; have q2 := hP a k q; clear hP q; obtain ⟨q0_, q1_⟩ := q2)
  all_goals ((repeat' apply And.intro) <;> first | exact trivial | assumption | exact fun e => absurd e.1 (by assumption))

theorem fr_X6_addNumber {P : Nat → Nat → Prop} {σ0 σ : mm_S} {a0 : Nat} {i1 : Int32} (hP : ∀ a k, P a k → a ≠ 2 ∧ ¬ (a = a0 ∧ k = 1)) (h : ko_K P σ0 σ) : ko id P σ0 (f_X6_addNumber a0 i1 σ) := by
  unfold f_X6_addNumber
  repeat' with_reducible first
    | assumption
    | refine ko_someV ?_
    | refine ko_someR ?_
    | refine ko_ite ?_ ?_
    | refine ko_gd (fun _ => ?_)
    | refine ko_gz ?_
    | refine ko_gb ?_
    | refine ko_gq ?_
    | refine ko_gl ?_
    | refine ko_lts ?_ (fun _ _ => ?_)
    | refine ko_ltx (fun _ => ?_)
    | refine ko_bd ?_ (fun _ _ _ => ?_)
    | refine ko_bv ?_ (fun _ _ => ?_)
    | refine ko_sui (by assumption) ?_
    | refine ko_suj (by assumption) ?_
    | refine ko_suc (by assumption) ?_
    | refine ko_suw (by assumption) ?_
    | refine ko_none
    | (refine fr_X6_addNumber_3 ?_ (by assumption))
  all_goals (intro a k q; have q2 := hP a k q; clear hP q; obtain ⟨q0_, q1_⟩ := q2)
  all_goals ((repeat' apply And.intro) <;> first | exact trivial | assumption | exact fun e => absurd e.1 (by assumption))

theorem fr_X8_take {P : Nat → Nat → Prop} {σ0 σ : mm_S} {a0 : Nat} {a1 : Nat} (hP : ∀ a k, P a k → ¬ (a = a0 ∧ k = 3) ∧ ¬ (a = a0 ∧ k = 4) ∧ ¬ (a = a0 + 1 ∧ k = 0) ∧ ¬ (a = a0 + 1 ∧ k = 1) ∧ ¬ (a = a0 + 1 ∧ k = 2) ∧ ¬ (a = a0 + 1 ∧ k = 3) ∧ ¬ (a = a0 + 1 ∧ k = 4) ∧ a ≠ a0 + 2 ∧ a ≠ a0 + 3 ∧ a ≠ a0 + 4 ∧ ¬ (a = a0 + 5 ∧ k = 0) ∧ ¬ (a = a0 + 5 ∧ k = 1) ∧ a ≠ a0 + 6 ∧ a ≠ a0 + 7 ∧ a ≠ a0 + 8 ∧ a ≠ a0 + 9 ∧ ¬ (a = a0 + 10 ∧ k = 0) ∧ a ≠ a0 + 11 ∧ a ≠ a0 + 12 ∧ a ≠ a0 + 13) (h : ko_K P σ0 σ) : ko id P σ0 (f_X8_take a0 a1 σ) := by
  unfold f_X8_take
  repeat' with_reducible first
    | assumption
    | refine ko_someV ?_
    | refine ko_someR ?_
    | refine ko_ite ?_ ?_
    | refine ko_gd (fun _ => ?_)
    | refine ko_gz ?_
    | refine ko_gb ?_
    | refine ko_gq ?_
    | refine ko_gl ?_
    | refine ko_lts ?_ (fun _ _ => ?_)
    | refine ko_ltx (fun _ => ?_)
    | refine ko_bd ?_ (fun _ _ _ => ?_)
    | refine ko_bv ?_ (fun _ _ => ?_)
    | refine ko_sui (by assumption) ?_
    | refine ko_suj (by assumption) ?_
    | refine ko_suc (by assumption) ?_
    | refine ko_suw (by assumption) ?_
    | refine ko_none
    | (refine fr_X1_take ?_ (by assumption))
    | (refine fr_X2_take ?_ (by assumption))
    | (refine fr_X3_take ?_ (by assumption))
  all_goals (intro a k q; have q2 := hP a k q; clear hP q; obtain ⟨q0_, q1_, q2_, q3_, q4_, q5_, q6_, q7_, q8_, q9_, q10_, q11_, q12_, q13_, q14_, q15_, q16_, q17_, q18_, q19_⟩ := q2)
  all_goals ((repeat' apply And.intro) <;> first | exact trivial | assumption | exact fun e => absurd e.1 (by assumption))

theorem fr_X7_begin {P : Nat → Nat → Prop} {σ0 σ : mm_S} {a0 : Nat} {a1 : Nat} {a2 : Nat} (hP : ∀ a k, P a k → ¬ (a = 999 ∧ k = 0) ∧ ¬ (a = a0 ∧ k = 3) ∧ ¬ (a = a0 ∧ k = 4) ∧ ¬ (a = a0 ∧ k = 5) ∧ ¬ (a = 201 ∧ k = 0) ∧ ¬ (a = 201 ∧ k = 1) ∧ a ≠ 202 ∧ a ≠ 203 ∧ a ≠ 204 ∧ a ≠ 205 ∧ a ≠ 206) (h : ko_K P σ0 σ) : ko id P σ0 (f_X7_begin a0 a1 a2 σ) := by
  unfold f_X7_begin
  repeat' with_reducible first
    | assumption
    | refine ko_someV ?_
    | refine ko_someR ?_
    | refine ko_ite ?_ ?_
    | refine ko_gd (fun _ => ?_)
    | refine ko_gz ?_
    | refine ko_gb ?_
    | refine ko_gq ?_
    | refine ko_gl ?_
    | refine ko_lts ?_ (fun _ _ => ?_)
    | refine ko_ltx (fun _ => ?_)
    | refine ko_bd ?_ (fun _ _ _ => ?_)
    | refine ko_bv ?_ (fun _ _ => ?_)
    | refine ko_sui (by assumption) ?_
    | refine ko_suj (by assumption) ?_
    | refine ko_suc (by assumption) ?_
    | refine ko_suw (by assumption) ?_
    | refine ko_none
    | (refine fr_X2_take ?_ (by assumption))
    | (refine fr_J7_fill_53178 ?_ (by assumption))
  all_goals (intro a k q; have q2 := hP a k q; clear hP q; obtain ⟨q0_, q1_, q2_, q3_, q4_, q5_, q6_, q7_, q8_, q9_, q10_⟩ := q2)
  all_goals ((repeat' apply And.intro) <;> first | exact trivial | assumption | exact fun e => absurd e.1 (by assumption))

theorem fr_X7_beginAsTold {P : Nat → Nat → Prop} {σ0 σ : mm_S} {a0 : Nat} {a1 : Nat} (hP : ∀ a k, P a k → ¬ (a = 201 ∧ k = 0) ∧ ¬ (a = 201 ∧ k = 1) ∧ a ≠ 202 ∧ a ≠ 203 ∧ a ≠ 204 ∧ a ≠ 205 ∧ ¬ (a = 999 ∧ k = 0) ∧ ¬ (a = a0 ∧ k = 3) ∧ ¬ (a = a0 ∧ k = 4) ∧ ¬ (a = a0 ∧ k = 5) ∧ a ≠ 206) (h : ko_K P σ0 σ) : ko id P σ0 (f_X7_beginAsTold a0 a1 σ) := by
  unfold f_X7_beginAsTold
  repeat' with_reducible first
    | assumption
    | refine ko_someV ?_
    | refine ko_someR ?_
    | refine ko_ite ?_ ?_
    | refine ko_gd (fun _ => ?_)
    | refine ko_gz ?_
    | refine ko_gb ?_
    | refine ko_gq ?_
    | refine ko_gl ?_
    | refine ko_lts ?_ (fun _ _ => ?_)
    | refine ko_ltx (fun _ => ?_)
    | refine ko_bd ?_ (fun _ _ _ => ?_)
    | refine ko_bv ?_ (fun _ _ => ?_)
    | refine ko_sui (by assumption) ?_
    | refine ko_suj (by assumption) ?_
    | refine ko_suc (by assumption) ?_
    | refine ko_suw (by assumption) ?_
    | refine ko_none
    | (refine fr_X2_begin ?_ (by assumption))
    | (refine fr_X7_begin ?_ (by assumption))
  all_goals (intro a k q; have q2 := hP a k q; clear hP q; obtain ⟨q0_, q1_, q2_, q3_, q4_, q5_, q6_, q7_, q8_, q9_, q10_⟩ := q2)
  all_goals ((repeat' apply And.intro) <;> first | exact trivial | assumption | exact fun e => absurd e.1 (by assumption))

theorem fr_X7_goIn_42 {P : Nat → Nat → Prop} {σ0 σ : mm_S} {a0 : Nat} {i1 : Int32} (hP : ∀ a k, P a k → ¬ (a = 201 ∧ k = 1)) (h : ko_K P σ0 σ) : ko id P σ0 (f_X7_goIn_42 a0 i1 σ) := by
  unfold f_X7_goIn_42
  repeat' with_reducible first
    | assumption
    | refine ko_someV ?_
    | refine ko_someR ?_
    | refine ko_ite ?_ ?_
    | refine ko_gd (fun _ => ?_)
    | refine ko_gz ?_
    | refine ko_gb ?_
    | refine ko_gq ?_
    | refine ko_gl ?_
    | refine ko_lts ?_ (fun _ _ => ?_)
    | refine ko_ltx (fun _ => ?_)
    | refine ko_bd ?_ (fun _ _ _ => ?_)
    | refine ko_bv ?_ (fun _ _ => ?_)
    | refine ko_sui (by assumption) ?_
    | refine ko_suj (by assumption) ?_
    | refine ko_suc (by assumption) ?_
    | refine ko_suw (by assumption) ?_
    | refine ko_none
    | (refine fr_X1_countsAt ?_ (by assumption))
  all_goals (intro a k q; have q2 := hP a k q; clear hP q; have q0_ := q2; clear q2)
  all_goals ((repeat' apply And.intro) <;> first | exact trivial | assumption | exact fun e => absurd e.1 (by assumption))

theorem fr_X7_goIn_24 {P : Nat → Nat → Prop} {σ0 σ : mm_S} {a0 : Nat} {i1 : Int32} (hP : ∀ a k, P a k → ¬ (a = 201 ∧ k = 1)) (h : ko_K P σ0 σ) : ko id P σ0 (f_X7_goIn_24 a0 i1 σ) := by
  unfold f_X7_goIn_24
  repeat' with_reducible first
    | assumption
    | refine ko_someV ?_
    | refine ko_someR ?_
    | refine ko_ite ?_ ?_
    | refine ko_gd (fun _ => ?_)
    | refine ko_gz ?_
    | refine ko_gb ?_
    | refine ko_gq ?_
    | refine ko_gl ?_
    | refine ko_lts ?_ (fun _ _ => ?_)
    | refine ko_ltx (fun _ => ?_)
    | refine ko_bd ?_ (fun _ _ _ => ?_)
    | refine ko_bv ?_ (fun _ _ => ?_)
    | refine ko_sui (by assumption) ?_
    | refine ko_suj (by assumption) ?_
    | refine ko_suc (by assumption) ?_
    | refine ko_suw (by assumption) ?_
    | refine ko_none
    | (refine fr_X7_goIn_42 ?_ (by assumption))
  all_goals (intro a k q; have q2 := hP a k q; clear hP q; have q0_ := q2; clear q2)
  all_goals ((repeat' apply And.intro) <;> first | exact trivial | assumption | exact fun e => absurd e.1 (by assumption))

theorem fr_X7_goIn {P : Nat → Nat → Prop} {σ0 σ : mm_S} {a0 : Nat} (hP : ∀ a k, P a k → ¬ (a = 201 ∧ k = 1)) (h : ko_K P σ0 σ) : ko id P σ0 (f_X7_goIn a0 σ) := by
  unfold f_X7_goIn
  repeat' with_reducible first
    | assumption
    | refine ko_someV ?_
    | refine ko_someR ?_
    | refine ko_ite ?_ ?_
    | refine ko_gd (fun _ => ?_)
    | refine ko_gz ?_
    | refine ko_gb ?_
    | refine ko_gq ?_
    | refine ko_gl ?_
    | refine ko_lts ?_ (fun _ _ => ?_)
    | refine ko_ltx (fun _ => ?_)
    | refine ko_bd ?_ (fun _ _ _ => ?_)
    | refine ko_bv ?_ (fun _ _ => ?_)
    | refine ko_sui (by assumption) ?_
    | refine ko_suj (by assumption) ?_
    | refine ko_suc (by assumption) ?_
    | refine ko_suw (by assumption) ?_
    | refine ko_none
    | (refine fr_X2_sought ?_ (by assumption))
    | (refine fr_X7_goIn_24 ?_ (by assumption))
  all_goals (intro a k q; have q2 := hP a k q; clear hP q; have q0_ := q2; clear q2)
  all_goals ((repeat' apply And.intro) <;> first | exact trivial | assumption | exact fun e => absurd e.1 (by assumption))

theorem fr_X7_joined {P : Nat → Nat → Prop} {σ0 σ : mm_S} {i0 : Int32} {j1 : Int64} {j3 : Int64} (hP : ∀ a k, P a k → True) (h : ko_K P σ0 σ) : ko Prod.snd P σ0 (f_X7_joined i0 j1 j3 σ) := by
  unfold f_X7_joined
  repeat' with_reducible first
    | assumption
    | refine ko_someV ?_
    | refine ko_someR ?_
    | refine ko_ite ?_ ?_
    | refine ko_gd (fun _ => ?_)
    | refine ko_gz ?_
    | refine ko_gb ?_
    | refine ko_gq ?_
    | refine ko_gl ?_
    | refine ko_lts ?_ (fun _ _ => ?_)
    | refine ko_ltx (fun _ => ?_)
    | refine ko_bd ?_ (fun _ _ _ => ?_)
    | refine ko_bv ?_ (fun _ _ => ?_)
    | refine ko_sui (by assumption) ?_
    | refine ko_suj (by assumption) ?_
    | refine ko_suc (by assumption) ?_
    | refine ko_suw (by assumption) ?_
    | refine ko_none
  all_goals (intro a k q; have q2 := hP a k q; clear hP q)
  all_goals ((repeat' apply And.intro) <;> first | exact trivial | assumption)

theorem fr_X7_worthByRule_186 {P : Nat → Nat → Prop} {σ0 σ : mm_S} {k4 : (Int32 × Int32) → mm_S → Option (Int64 × mm_S)} {a0 : Nat} {i1 : Int32} {i2 : Int32} {i3 : Int32} (hP : ∀ a k, P a k → a ≠ 210) (hk0 : ∀ v τ, ko_K P σ0 τ → ko Prod.snd P σ0 (k4 v τ)) (h : ko_K P σ0 σ) : ko Prod.snd P σ0 (f_X7_worthByRule_186 k4 a0 i1 i2 i3 σ) := by
  unfold f_X7_worthByRule_186
  repeat' with_reducible first
    | assumption
    | refine ko_someV ?_
    | refine ko_someR ?_
    | refine ko_ite ?_ ?_
    | refine ko_gd (fun _ => ?_)
    | refine ko_gz ?_
    | refine ko_gb ?_
    | refine ko_gq ?_
    | refine ko_gl ?_
    | refine ko_lts ?_ (fun _ _ => ?_)
    | refine ko_ltx (fun _ => ?_)
    | refine ko_bd ?_ (fun _ _ _ => ?_)
    | refine ko_bv ?_ (fun _ _ => ?_)
    | refine ko_sui (by assumption) ?_
    | refine ko_suj (by assumption) ?_
    | refine ko_suc (by assumption) ?_
    | refine ko_suw (by assumption) ?_
    | refine ko_none
    | (apply hk0; assumption)
    | (refine fr_X7_joined ?_ (by assumption))
  all_goals (intro a k q; have q2 := hP a k q; clear hP q; have q0_ := q2; clear q2)
  all_goals ((repeat' apply And.intro) <;> first | exact trivial | assumption | exact fun e => absurd e.1 (by assumption))

theorem fr_X7_worthByRule_154 {P : Nat → Nat → Prop} {σ0 σ : mm_S} {k4 : (Int32 × Int32) → mm_S → Option (Int64 × mm_S)} {a0 : Nat} {i1 : Int32} {i2 : Int32} {i3 : Int32} (hP : ∀ a k, P a k → a ≠ 210) (hk0 : ∀ v τ, ko_K P σ0 τ → ko Prod.snd P σ0 (k4 v τ)) (h : ko_K P σ0 σ) : ko Prod.snd P σ0 (f_X7_worthByRule_154 k4 a0 i1 i2 i3 σ) := by
  unfold f_X7_worthByRule_154
  repeat' with_reducible first
    | assumption
    | refine ko_someV ?_
    | refine ko_someR ?_
    | refine ko_ite ?_ ?_
    | refine ko_gd (fun _ => ?_)
    | refine ko_gz ?_
    | refine ko_gb ?_
    | refine ko_gq ?_
    | refine ko_gl ?_
    | refine ko_lts ?_ (fun _ _ => ?_)
    | refine ko_ltx (fun _ => ?_)
    | refine ko_bd ?_ (fun _ _ _ => ?_)
    | refine ko_bv ?_ (fun _ _ => ?_)
    | refine ko_sui (by assumption) ?_
    | refine ko_suj (by assumption) ?_
    | refine ko_suc (by assumption) ?_
    | refine ko_suw (by assumption) ?_
    | refine ko_none
    | (apply hk0; assumption)
    | (refine fr_X7_worthByRule_186 ?_ (by first | exact hk0) (by assumption))
  all_goals (intro a k q; have q2 := hP a k q; clear hP q; have q0_ := q2; clear q2)
  all_goals ((repeat' apply And.intro) <;> first | exact trivial | assumption | exact fun e => absurd e.1 (by assumption))

theorem fr_X7_worthByRule_120 {P : Nat → Nat → Prop} {σ0 σ : mm_S} {k4 : (Int32 × Int32) → mm_S → Option (Int64 × mm_S)} {a0 : Nat} {i1 : Int32} {i2 : Int32} {i3 : Int32} (hP : ∀ a k, P a k → a ≠ 210) (hk0 : ∀ v τ, ko_K P σ0 τ → ko Prod.snd P σ0 (k4 v τ)) (h : ko_K P σ0 σ) : ko Prod.snd P σ0 (f_X7_worthByRule_120 k4 a0 i1 i2 i3 σ) := by
  unfold f_X7_worthByRule_120
  repeat' with_reducible first
    | assumption
    | refine ko_someV ?_
    | refine ko_someR ?_
    | refine ko_ite ?_ ?_
    | refine ko_gd (fun _ => ?_)
    | refine ko_gz ?_
    | refine ko_gb ?_
    | refine ko_gq ?_
    | refine ko_gl ?_
    | refine ko_lts ?_ (fun _ _ => ?_)
    | refine ko_ltx (fun _ => ?_)
    | refine ko_bd ?_ (fun _ _ _ => ?_)
    | refine ko_bv ?_ (fun _ _ => ?_)
    | refine ko_sui (by assumption) ?_
    | refine ko_suj (by assumption) ?_
    | refine ko_suc (by assumption) ?_
    | refine ko_suw (by assumption) ?_
    | refine ko_none
    | (apply hk0; assumption)
    | (refine fr_X7_worthByRule_154 ?_ (by first | exact hk0) (by assumption))
  all_goals (intro a k q; have q2 := hP a k q; clear hP q; have q0_ := q2; clear q2)
  all_goals ((repeat' apply And.intro) <;> first | exact trivial | assumption | exact fun e => absurd e.1 (by assumption))

theorem fr_X7_worthByRule_100 {P : Nat → Nat → Prop} {σ0 σ : mm_S} {k4 : (Int32 × Int32) → mm_S → Option (Int64 × mm_S)} {a0 : Nat} {i1 : Int32} {i2 : Int32} {i3 : Int32} (hP : ∀ a k, P a k → a ≠ 210) (hk0 : ∀ v τ, ko_K P σ0 τ → ko Prod.snd P σ0 (k4 v τ)) (h : ko_K P σ0 σ) : ko Prod.snd P σ0 (f_X7_worthByRule_100 k4 a0 i1 i2 i3 σ) := by
  unfold f_X7_worthByRule_100
  repeat' with_reducible first
    | assumption
    | refine ko_someV ?_
    | refine ko_someR ?_
    | refine ko_ite ?_ ?_
    | refine ko_gd (fun _ => ?_)
    | refine ko_gz ?_
    | refine ko_gb ?_
    | refine ko_gq ?_
    | refine ko_gl ?_
    | refine ko_lts ?_ (fun _ _ => ?_)
    | refine ko_ltx (fun _ => ?_)
    | refine ko_bd ?_ (fun _ _ _ => ?_)
    | refine ko_bv ?_ (fun _ _ => ?_)
    | refine ko_sui (by assumption) ?_
    | refine ko_suj (by assumption) ?_
    | refine ko_suc (by assumption) ?_
    | refine ko_suw (by assumption) ?_
    | refine ko_none
    | (apply hk0; assumption)
    | (refine fr_X7_worthByRule_120 ?_ (by first | exact hk0) (by assumption))
  all_goals (intro a k q; have q2 := hP a k q; clear hP q; have q0_ := q2; clear q2)
  all_goals ((repeat' apply And.intro) <;> first | exact trivial | assumption | exact fun e => absurd e.1 (by assumption))

theorem fr_X7_worthByRule_66 {P : Nat → Nat → Prop} {σ0 σ : mm_S} {k4 : (Int32 × Int32) → mm_S → Option (Int64 × mm_S)} {a0 : Nat} {i1 : Int32} {i2 : Int32} {i3 : Int32} (hP : ∀ a k, P a k → a ≠ 210) (hk0 : ∀ v τ, ko_K P σ0 τ → ko Prod.snd P σ0 (k4 v τ)) (h : ko_K P σ0 σ) : ko Prod.snd P σ0 (f_X7_worthByRule_66 k4 a0 i1 i2 i3 σ) := by
  unfold f_X7_worthByRule_66
  repeat' with_reducible first
    | assumption
    | refine ko_someV ?_
    | refine ko_someR ?_
    | refine ko_ite ?_ ?_
    | refine ko_gd (fun _ => ?_)
    | refine ko_gz ?_
    | refine ko_gb ?_
    | refine ko_gq ?_
    | refine ko_gl ?_
    | refine ko_lts ?_ (fun _ _ => ?_)
    | refine ko_ltx (fun _ => ?_)
    | refine ko_bd ?_ (fun _ _ _ => ?_)
    | refine ko_bv ?_ (fun _ _ => ?_)
    | refine ko_sui (by assumption) ?_
    | refine ko_suj (by assumption) ?_
    | refine ko_suc (by assumption) ?_
    | refine ko_suw (by assumption) ?_
    | refine ko_none
    | (apply hk0; assumption)
    | (refine fr_X7_worthByRule_100 ?_ (by first | exact hk0) (by assumption))
  all_goals (intro a k q; have q2 := hP a k q; clear hP q; have q0_ := q2; clear q2)
  all_goals ((repeat' apply And.intro) <;> first | exact trivial | assumption | exact fun e => absurd e.1 (by assumption))

theorem fr_X7_worthByRule_4 {P : Nat → Nat → Prop} {σ0 σ : mm_S} {a0 : Nat} {i1 : Int32} {i2 : Int32} (hP : ∀ a k, P a k → a ≠ 210) (h : ko_K P σ0 σ) : ko Prod.snd P σ0 (f_X7_worthByRule_4 a0 i1 i2 σ) := by
  unfold f_X7_worthByRule_4
  refine ko_lp (fun rec hrec v τ hτ => ?_) lpN _ _ h
  repeat' with_reducible first
    | assumption
    | refine ko_someV ?_
    | refine ko_someR ?_
    | refine ko_ite ?_ ?_
    | refine ko_gd (fun _ => ?_)
    | refine ko_gz ?_
    | refine ko_gb ?_
    | refine ko_gq ?_
    | refine ko_gl ?_
    | refine ko_lts ?_ (fun _ _ => ?_)
    | refine ko_ltx (fun _ => ?_)
    | refine ko_bd ?_ (fun _ _ _ => ?_)
    | refine ko_bv ?_ (fun _ _ => ?_)
    | refine ko_sui (by assumption) ?_
    | refine ko_suj (by assumption) ?_
    | refine ko_suc (by assumption) ?_
    | refine ko_suw (by assumption) ?_
    | refine ko_none
    | (apply hrec; assumption)
    | (refine fr_X7_worthByRule_66 ?_ (by first | exact hrec) (by assumption))
  all_goals (intro a k q; have q2 := hP a k q; clear hP q; have q0_ := q2; clear q2)
  all_goals ((repeat' apply And.intro) <;> first | exact trivial | assumption | exact fun e => absurd e.1 (by assumption))

theorem fr_X7_worthByRule {P : Nat → Nat → Prop} {σ0 σ : mm_S} {a0 : Nat} (hP : ∀ a k, P a k → a ≠ 210) (h : ko_K P σ0 σ) : ko Prod.snd P σ0 (f_X7_worthByRule a0 σ) := by
  unfold f_X7_worthByRule
  repeat' with_reducible first
    | assumption
    | refine ko_someV ?_
    | refine ko_someR ?_
    | refine ko_ite ?_ ?_
    | refine ko_gd (fun _ => ?_)
    | refine ko_gz ?_
    | refine ko_gb ?_
    | refine ko_gq ?_
    | refine ko_gl ?_
    | refine ko_lts ?_ (fun _ _ => ?_)
    | refine ko_ltx (fun _ => ?_)
    | refine ko_bd ?_ (fun _ _ _ => ?_)
    | refine ko_bv ?_ (fun _ _ => ?_)
    | refine ko_sui (by assumption) ?_
    | refine ko_suj (by assumption) ?_
    | refine ko_suc (by assumption) ?_
    | refine ko_suw (by assumption) ?_
    | refine ko_none
    | (refine fr_X7_worthByRule_4 ?_ (by assumption))
  all_goals (intro a k q; have q2 := hP a k q; clear hP q; have q0_ := q2; clear q2)
  all_goals ((repeat' apply And.intro) <;> first | exact trivial | assumption | exact fun e => absurd e.1 (by assumption))

theorem fr_X7_bestOther_209 {P : Nat → Nat → Prop} {σ0 σ : mm_S} {k108 : (Int32 × Int64 × Int32) → mm_S → Option (Int32 × mm_S)} {a0 : Nat} {i1 : Int32} {i3 : Int32} {j4 : Int64} {i6 : Int32} {s0 : Nat} {s1 : Int32} {s2 : Int64} (hP : ∀ a k, P a k → a ≠ s0 ∧ a ≠ 209 ∧ a ≠ 210) (hk0 : ∀ v τ, ko_K P σ0 τ → ko Prod.snd P σ0 (k108 v τ)) (h : ko_K P σ0 σ) : ko Prod.snd P σ0 (f_X7_bestOther_209 k108 a0 i1 i3 j4 i6 s0 s1 s2 σ) := by
  unfold f_X7_bestOther_209
  repeat' with_reducible first
    | assumption
    | refine ko_someV ?_
    | refine ko_someR ?_
    | refine ko_ite ?_ ?_
    | refine ko_gd (fun _ => ?_)
    | refine ko_gz ?_
    | refine ko_gb ?_
    | refine ko_gq ?_
    | refine ko_gl ?_
    | refine ko_lts ?_ (fun _ _ => ?_)
    | refine ko_ltx (fun _ => ?_)
    | refine ko_bd ?_ (fun _ _ _ => ?_)
    | refine ko_bv ?_ (fun _ _ => ?_)
    | refine ko_sui (by assumption) ?_
    | refine ko_suj (by assumption) ?_
    | refine ko_suc (by assumption) ?_
    | refine ko_suw (by assumption) ?_
    | refine ko_none
    | (apply hk0; assumption)
    | (refine fr_X7_worthByRule ?_ (by assumption))
  all_goals (intro a k q; have q2 := hP a k q; clear hP q; obtain ⟨q0_, q1_, q2_⟩ := q2)
  all_goals ((repeat' apply And.intro) <;> first | exact trivial | assumption | exact fun e => absurd e.1 (by assumption))

theorem fr_X7_bestOther_108 {P : Nat → Nat → Prop} {σ0 σ : mm_S} {a0 : Nat} {i1 : Int32} {i3 : Int32} {j4 : Int64} {i6 : Int32} (hP : ∀ a k, P a k → a ≠ 209 ∧ a ≠ 210) (h : ko_K P σ0 σ) : ko Prod.snd P σ0 (f_X7_bestOther_108 a0 i1 i3 j4 i6 σ) := by
  unfold f_X7_bestOther_108
  refine ko_lp (fun rec hrec v τ hτ => ?_) lpN _ _ h
  repeat' with_reducible first
    | assumption
    | refine ko_someV ?_
    | refine ko_someR ?_
    | refine ko_ite ?_ ?_
    | refine ko_gd (fun _ => ?_)
    | refine ko_gz ?_
    | refine ko_gb ?_
    | refine ko_gq ?_
    | refine ko_gl ?_
    | refine ko_lts ?_ (fun _ _ => ?_)
    | refine ko_ltx (fun _ => ?_)
    | refine ko_bd ?_ (fun _ _ _ => ?_)
    | refine ko_bv ?_ (fun _ _ => ?_)
    | refine ko_sui (by assumption) ?_
    | refine ko_suj (by assumption) ?_
    | refine ko_suc (by assumption) ?_
    | refine ko_suw (by assumption) ?_
    | refine ko_none
    | (apply hrec; assumption)
    | (refine fr_X1_dearness ?_ (by assumption))
    | (refine fr_X7_bestOther_209 ?_ (by first | exact hrec) (by assumption))
  all_goals (intro a k q; have q2 := hP a k q; clear hP q; obtain ⟨q0_, q1_⟩ := q2)
  all_goals ((repeat' apply And.intro) <;> first | exact trivial | assumption | exact fun e => absurd e.1 (by assumption))

theorem fr_X7_bestOther {P : Nat → Nat → Prop} {σ0 σ : mm_S} {a0 : Nat} {i1 : Int32} {i2 : Int32} (hP : ∀ a k, P a k → a ≠ 209 ∧ a ≠ 210) (h : ko_K P σ0 σ) : ko Prod.snd P σ0 (f_X7_bestOther a0 i1 i2 σ) := by
  unfold f_X7_bestOther
  repeat' with_reducible first
    | assumption
    | refine ko_someV ?_
    | refine ko_someR ?_
    | refine ko_ite ?_ ?_
    | refine ko_gd (fun _ => ?_)
    | refine ko_gz ?_
    | refine ko_gb ?_
    | refine ko_gq ?_
    | refine ko_gl ?_
    | refine ko_lts ?_ (fun _ _ => ?_)
    | refine ko_ltx (fun _ => ?_)
    | refine ko_bd ?_ (fun _ _ _ => ?_)
    | refine ko_bv ?_ (fun _ _ => ?_)
    | refine ko_sui (by assumption) ?_
    | refine ko_suj (by assumption) ?_
    | refine ko_suc (by assumption) ?_
    | refine ko_suw (by assumption) ?_
    | refine ko_none
    | (refine fr_J6_bitCount_0f7a4 ?_ (by assumption))
    | (refine fr_X7_bestOther_108 ?_ (by assumption))
  all_goals (intro a k q; have q2 := hP a k q; clear hP q; obtain ⟨q0_, q1_⟩ := q2)
  all_goals ((repeat' apply And.intro) <;> first | exact trivial | assumption | exact fun e => absurd e.1 (by assumption))

theorem fr_X7_lookForOthers_93 {P : Nat → Nat → Prop} {σ0 σ : mm_S} {k33 : (Int32 × Int32) → mm_S → Option (mm_S)} {a0 : Nat} {i1 : Int32} {i2 : Int32} {i3 : Int32} (hP : ∀ a k, P a k → a ≠ 204 ∧ a ≠ 208) (hk0 : ∀ v τ, ko_K P σ0 τ → ko id P σ0 (k33 v τ)) (h : ko_K P σ0 σ) : ko id P σ0 (f_X7_lookForOthers_93 k33 a0 i1 i2 i3 σ) := by
  unfold f_X7_lookForOthers_93
  repeat' with_reducible first
    | assumption
    | refine ko_someV ?_
    | refine ko_someR ?_
    | refine ko_ite ?_ ?_
    | refine ko_gd (fun _ => ?_)
    | refine ko_gz ?_
    | refine ko_gb ?_
    | refine ko_gq ?_
    | refine ko_gl ?_
    | refine ko_lts ?_ (fun _ _ => ?_)
    | refine ko_ltx (fun _ => ?_)
    | refine ko_bd ?_ (fun _ _ _ => ?_)
    | refine ko_bv ?_ (fun _ _ => ?_)
    | refine ko_sui (by assumption) ?_
    | refine ko_suj (by assumption) ?_
    | refine ko_suc (by assumption) ?_
    | refine ko_suw (by assumption) ?_
    | refine ko_none
    | (apply hk0; assumption)
  all_goals (intro a k q; have q2 := hP a k q; clear hP q; obtain ⟨q0_, q1_⟩ := q2)
  all_goals ((repeat' apply And.intro) <;> first | exact trivial | assumption | exact fun e => absurd e.1 (by assumption))

theorem fr_X7_lookForOthers_33 {P : Nat → Nat → Prop} {σ0 σ : mm_S} {a0 : Nat} {i1 : Int32} {i2 : Int32} (hP : ∀ a k, P a k → a ≠ 204 ∧ a ≠ 208 ∧ a ≠ 209 ∧ a ≠ 210) (h : ko_K P σ0 σ) : ko id P σ0 (f_X7_lookForOthers_33 a0 i1 i2 σ) := by
  unfold f_X7_lookForOthers_33
  refine ko_lp (fun rec hrec v τ hτ => ?_) lpN _ _ h
  repeat' with_reducible first
    | assumption
    | refine ko_someV ?_
    | refine ko_someR ?_
    | refine ko_ite ?_ ?_
    | refine ko_gd (fun _ => ?_)
    | refine ko_gz ?_
    | refine ko_gb ?_
    | refine ko_gq ?_
    | refine ko_gl ?_
    | refine ko_lts ?_ (fun _ _ => ?_)
    | refine ko_ltx (fun _ => ?_)
    | refine ko_bd ?_ (fun _ _ _ => ?_)
    | refine ko_bv ?_ (fun _ _ => ?_)
    | refine ko_sui (by assumption) ?_
    | refine ko_suj (by assumption) ?_
    | refine ko_suc (by assumption) ?_
    | refine ko_suw (by assumption) ?_
    | refine ko_none
    | (apply hrec; assumption)
    | (refine fr_X2_isIn ?_ (by assumption))
    | (refine fr_X7_lookForOthers_93 ?_ (by first | exact hrec) (by assumption))
    | (refine fr_X7_bestOther ?_ (by assumption))
  all_goals (intro a k q; have q2 := hP a k q; clear hP q; obtain ⟨q0_, q1_, q2_, q3_⟩ := q2)
  all_goals ((repeat' apply And.intro) <;> first | exact trivial | assumption | exact fun e => absurd e.1 (by assumption))

theorem fr_X7_lookForOthers {P : Nat → Nat → Prop} {σ0 σ : mm_S} {a0 : Nat} (hP : ∀ a k, P a k → a ≠ 207 ∧ a ≠ 208 ∧ a ≠ 204 ∧ a ≠ 209 ∧ a ≠ 210) (h : ko_K P σ0 σ) : ko id P σ0 (f_X7_lookForOthers a0 σ) := by
  unfold f_X7_lookForOthers
  repeat' with_reducible first
    | assumption
    | refine ko_someV ?_
    | refine ko_someR ?_
    | refine ko_ite ?_ ?_
    | refine ko_gd (fun _ => ?_)
    | refine ko_gz ?_
    | refine ko_gb ?_
    | refine ko_gq ?_
    | refine ko_gl ?_
    | refine ko_lts ?_ (fun _ _ => ?_)
    | refine ko_ltx (fun _ => ?_)
    | refine ko_bd ?_ (fun _ _ _ => ?_)
    | refine ko_bv ?_ (fun _ _ => ?_)
    | refine ko_sui (by assumption) ?_
    | refine ko_suj (by assumption) ?_
    | refine ko_suc (by assumption) ?_
    | refine ko_suw (by assumption) ?_
    | refine ko_none
    | (refine fr_J7_fill_53178 ?_ (by assumption))
    | (refine fr_X7_lookForOthers_33 ?_ (by assumption))
  all_goals (intro a k q; have q2 := hP a k q; clear hP q; obtain ⟨q0_, q1_, q2_, q3_, q4_⟩ := q2)
  all_goals ((repeat' apply And.intro) <;> first | exact trivial | assumption | exact fun e => absurd e.1 (by assumption))

theorem fr_X7_sleepOrTire_2 {P : Nat → Nat → Prop} {σ0 σ : mm_S} {a0 : Nat} {i1 : Int32} (hP : ∀ a k, P a k → a ≠ 202 ∧ a ≠ 205) (h : ko_K P σ0 σ) : ko id P σ0 (f_X7_sleepOrTire_2 a0 i1 σ) := by
  unfold f_X7_sleepOrTire_2
  refine ko_lp (fun rec hrec v τ hτ => ?_) lpN _ _ h
  repeat' with_reducible first
    | assumption
    | refine ko_someV ?_
    | refine ko_someR ?_
    | refine ko_ite ?_ ?_
    | refine ko_gd (fun _ => ?_)
    | refine ko_gz ?_
    | refine ko_gb ?_
    | refine ko_gq ?_
    | refine ko_gl ?_
    | refine ko_lts ?_ (fun _ _ => ?_)
    | refine ko_ltx (fun _ => ?_)
    | refine ko_bd ?_ (fun _ _ _ => ?_)
    | refine ko_bv ?_ (fun _ _ => ?_)
    | refine ko_sui (by assumption) ?_
    | refine ko_suj (by assumption) ?_
    | refine ko_suc (by assumption) ?_
    | refine ko_suw (by assumption) ?_
    | refine ko_none
    | (apply hrec; assumption)
    | (refine fr_X2_isIn ?_ (by assumption))
    | (refine fr_X2_tireBy ?_ (by assumption))
  all_goals (intro a k q; have q2 := hP a k q; clear hP q; obtain ⟨q0_, q1_⟩ := q2)
  all_goals ((repeat' apply And.intro) <;> first | exact trivial | assumption | exact fun e => absurd e.1 (by assumption))

theorem fr_X7_sleepOrTire {P : Nat → Nat → Prop} {σ0 σ : mm_S} {a0 : Nat} (hP : ∀ a k, P a k → a ≠ 202 ∧ a ≠ 205) (h : ko_K P σ0 σ) : ko id P σ0 (f_X7_sleepOrTire a0 σ) := by
  unfold f_X7_sleepOrTire
  repeat' with_reducible first
    | assumption
    | refine ko_someV ?_
    | refine ko_someR ?_
    | refine ko_ite ?_ ?_
    | refine ko_gd (fun _ => ?_)
    | refine ko_gz ?_
    | refine ko_gb ?_
    | refine ko_gq ?_
    | refine ko_gl ?_
    | refine ko_lts ?_ (fun _ _ => ?_)
    | refine ko_ltx (fun _ => ?_)
    | refine ko_bd ?_ (fun _ _ _ => ?_)
    | refine ko_bv ?_ (fun _ _ => ?_)
    | refine ko_sui (by assumption) ?_
    | refine ko_suj (by assumption) ?_
    | refine ko_suc (by assumption) ?_
    | refine ko_suw (by assumption) ?_
    | refine ko_none
    | (refine fr_X7_sleepOrTire_2 ?_ (by assumption))
  all_goals (intro a k q; have q2 := hP a k q; clear hP q; obtain ⟨q0_, q1_⟩ := q2)
  all_goals ((repeat' apply And.intro) <;> first | exact trivial | assumption | exact fun e => absurd e.1 (by assumption))

theorem fr_X7_firstSeeker_2 {P : Nat → Nat → Prop} {σ0 σ : mm_S} {a0 : Nat} {i1 : Int32} {i2 : Int32} (hP : ∀ a k, P a k → True) (h : ko_K P σ0 σ) : ko Prod.snd P σ0 (f_X7_firstSeeker_2 a0 i1 i2 σ) := by
  unfold f_X7_firstSeeker_2
  refine ko_lp (fun rec hrec v τ hτ => ?_) lpN _ _ h
  repeat' with_reducible first
    | assumption
    | refine ko_someV ?_
    | refine ko_someR ?_
    | refine ko_ite ?_ ?_
    | refine ko_gd (fun _ => ?_)
    | refine ko_gz ?_
    | refine ko_gb ?_
    | refine ko_gq ?_
    | refine ko_gl ?_
    | refine ko_lts ?_ (fun _ _ => ?_)
    | refine ko_ltx (fun _ => ?_)
    | refine ko_bd ?_ (fun _ _ _ => ?_)
    | refine ko_bv ?_ (fun _ _ => ?_)
    | refine ko_sui (by assumption) ?_
    | refine ko_suj (by assumption) ?_
    | refine ko_suc (by assumption) ?_
    | refine ko_suw (by assumption) ?_
    | refine ko_none
    | (apply hrec; assumption)
  all_goals (intro a k q; have q2 := hP a k q; clear hP q)
  all_goals ((repeat' apply And.intro) <;> first | exact trivial | assumption)

theorem fr_X7_firstSeeker {P : Nat → Nat → Prop} {σ0 σ : mm_S} {a0 : Nat} {i1 : Int32} (hP : ∀ a k, P a k → True) (h : ko_K P σ0 σ) : ko Prod.snd P σ0 (f_X7_firstSeeker a0 i1 σ) := by
  unfold f_X7_firstSeeker
  repeat' with_reducible first
    | assumption
    | refine ko_someV ?_
    | refine ko_someR ?_
    | refine ko_ite ?_ ?_
    | refine ko_gd (fun _ => ?_)
    | refine ko_gz ?_
    | refine ko_gb ?_
    | refine ko_gq ?_
    | refine ko_gl ?_
    | refine ko_lts ?_ (fun _ _ => ?_)
    | refine ko_ltx (fun _ => ?_)
    | refine ko_bd ?_ (fun _ _ _ => ?_)
    | refine ko_bv ?_ (fun _ _ => ?_)
    | refine ko_sui (by assumption) ?_
    | refine ko_suj (by assumption) ?_
    | refine ko_suc (by assumption) ?_
    | refine ko_suw (by assumption) ?_
    | refine ko_none
    | (refine fr_X7_firstSeeker_2 ?_ (by assumption))
  all_goals (intro a k q; have q2 := hP a k q; clear hP q)
  all_goals ((repeat' apply And.intro) <;> first | exact trivial | assumption)

theorem fr_X7_payTheSeekers_2 {P : Nat → Nat → Prop} {σ0 σ : mm_S} {a0 : Nat} {i1 : Int32} (hP : ∀ a k, P a k → a ≠ 203) (h : ko_K P σ0 σ) : ko id P σ0 (f_X7_payTheSeekers_2 a0 i1 σ) := by
  unfold f_X7_payTheSeekers_2
  refine ko_lp (fun rec hrec v τ hτ => ?_) lpN _ _ h
  repeat' with_reducible first
    | assumption
    | refine ko_someV ?_
    | refine ko_someR ?_
    | refine ko_ite ?_ ?_
    | refine ko_gd (fun _ => ?_)
    | refine ko_gz ?_
    | refine ko_gb ?_
    | refine ko_gq ?_
    | refine ko_gl ?_
    | refine ko_lts ?_ (fun _ _ => ?_)
    | refine ko_ltx (fun _ => ?_)
    | refine ko_bd ?_ (fun _ _ _ => ?_)
    | refine ko_bv ?_ (fun _ _ => ?_)
    | refine ko_sui (by assumption) ?_
    | refine ko_suj (by assumption) ?_
    | refine ko_suc (by assumption) ?_
    | refine ko_suw (by assumption) ?_
    | refine ko_none
    | (apply hrec; assumption)
    | (refine fr_X2_isIn ?_ (by assumption))
    | (refine fr_X7_firstSeeker ?_ (by assumption))
    | (refine fr_X2_give ?_ (by assumption))
  all_goals (intro a k q; have q2 := hP a k q; clear hP q; have q0_ := q2; clear q2)
  all_goals ((repeat' apply And.intro) <;> first | exact trivial | assumption | exact fun e => absurd e.1 (by assumption))

theorem fr_X7_payTheSeekers {P : Nat → Nat → Prop} {σ0 σ : mm_S} {a0 : Nat} (hP : ∀ a k, P a k → a ≠ 203) (h : ko_K P σ0 σ) : ko id P σ0 (f_X7_payTheSeekers a0 σ) := by
  unfold f_X7_payTheSeekers
  repeat' with_reducible first
    | assumption
    | refine ko_someV ?_
    | refine ko_someR ?_
    | refine ko_ite ?_ ?_
    | refine ko_gd (fun _ => ?_)
    | refine ko_gz ?_
    | refine ko_gb ?_
    | refine ko_gq ?_
    | refine ko_gl ?_
    | refine ko_lts ?_ (fun _ _ => ?_)
    | refine ko_ltx (fun _ => ?_)
    | refine ko_bd ?_ (fun _ _ _ => ?_)
    | refine ko_bv ?_ (fun _ _ => ?_)
    | refine ko_sui (by assumption) ?_
    | refine ko_suj (by assumption) ?_
    | refine ko_suc (by assumption) ?_
    | refine ko_suw (by assumption) ?_
    | refine ko_none
    | (refine fr_X7_payTheSeekers_2 ?_ (by assumption))
  all_goals (intro a k q; have q2 := hP a k q; clear hP q; have q0_ := q2; clear q2)
  all_goals ((repeat' apply And.intro) <;> first | exact trivial | assumption | exact fun e => absurd e.1 (by assumption))

theorem fr_X7_passHours_2 {P : Nat → Nat → Prop} {σ0 σ : mm_S} {a0 : Nat} {i1 : Int32} {i2 : Int32} (hP : ∀ a k, P a k → ¬ (a = 201 ∧ k = 0) ∧ ¬ (a = 201 ∧ k = 1) ∧ a ≠ 207 ∧ a ≠ 208 ∧ a ≠ 204 ∧ a ≠ 209 ∧ a ≠ 210 ∧ a ≠ 202 ∧ a ≠ 205 ∧ a ≠ 203) (h : ko_K P σ0 σ) : ko id P σ0 (f_X7_passHours_2 a0 i1 i2 σ) := by
  unfold f_X7_passHours_2
  refine ko_lp (fun rec hrec v τ hτ => ?_) lpN _ _ h
  repeat' with_reducible first
    | assumption
    | refine ko_someV ?_
    | refine ko_someR ?_
    | refine ko_ite ?_ ?_
    | refine ko_gd (fun _ => ?_)
    | refine ko_gz ?_
    | refine ko_gb ?_
    | refine ko_gq ?_
    | refine ko_gl ?_
    | refine ko_lts ?_ (fun _ _ => ?_)
    | refine ko_ltx (fun _ => ?_)
    | refine ko_bd ?_ (fun _ _ _ => ?_)
    | refine ko_bv ?_ (fun _ _ => ?_)
    | refine ko_sui (by assumption) ?_
    | refine ko_suj (by assumption) ?_
    | refine ko_suc (by assumption) ?_
    | refine ko_suw (by assumption) ?_
    | refine ko_none
    | (apply hrec; assumption)
    | (refine fr_X7_goIn ?_ (by assumption))
    | (refine fr_X7_lookForOthers ?_ (by assumption))
    | (refine fr_X7_sleepOrTire ?_ (by assumption))
    | (refine fr_X7_payTheSeekers ?_ (by assumption))
  all_goals (intro a k q; have q2 := hP a k q; clear hP q; obtain ⟨q0_, q1_, q2_, q3_, q4_, q5_, q6_, q7_, q8_, q9_⟩ := q2)
  all_goals ((repeat' apply And.intro) <;> first | exact trivial | assumption | exact fun e => absurd e.1 (by assumption))

theorem fr_X7_passHours {P : Nat → Nat → Prop} {σ0 σ : mm_S} {a0 : Nat} {i1 : Int32} (hP : ∀ a k, P a k → ¬ (a = 201 ∧ k = 0) ∧ ¬ (a = 201 ∧ k = 1) ∧ a ≠ 207 ∧ a ≠ 208 ∧ a ≠ 204 ∧ a ≠ 209 ∧ a ≠ 210 ∧ a ≠ 202 ∧ a ≠ 205 ∧ a ≠ 203) (h : ko_K P σ0 σ) : ko id P σ0 (f_X7_passHours a0 i1 σ) := by
  unfold f_X7_passHours
  repeat' with_reducible first
    | assumption
    | refine ko_someV ?_
    | refine ko_someR ?_
    | refine ko_ite ?_ ?_
    | refine ko_gd (fun _ => ?_)
    | refine ko_gz ?_
    | refine ko_gb ?_
    | refine ko_gq ?_
    | refine ko_gl ?_
    | refine ko_lts ?_ (fun _ _ => ?_)
    | refine ko_ltx (fun _ => ?_)
    | refine ko_bd ?_ (fun _ _ _ => ?_)
    | refine ko_bv ?_ (fun _ _ => ?_)
    | refine ko_sui (by assumption) ?_
    | refine ko_suj (by assumption) ?_
    | refine ko_suc (by assumption) ?_
    | refine ko_suw (by assumption) ?_
    | refine ko_none
    | (refine fr_X7_passHours_2 ?_ (by assumption))
  all_goals (intro a k q; have q2 := hP a k q; clear hP q; obtain ⟨q0_, q1_, q2_, q3_, q4_, q5_, q6_, q7_, q8_, q9_⟩ := q2)
  all_goals ((repeat' apply And.intro) <;> first | exact trivial | assumption | exact fun e => absurd e.1 (by assumption))

theorem fr_X7_nextDraw {P : Nat → Nat → Prop} {σ0 σ : mm_S} {a0 : Nat} (hP : ∀ a k, P a k → ¬ (a = a0 ∧ k = 7)) (h : ko_K P σ0 σ) : ko Prod.snd P σ0 (f_X7_nextDraw a0 σ) := by
  unfold f_X7_nextDraw
  repeat' with_reducible first
    | assumption
    | refine ko_someV ?_
    | refine ko_someR ?_
    | refine ko_ite ?_ ?_
    | refine ko_gd (fun _ => ?_)
    | refine ko_gz ?_
    | refine ko_gb ?_
    | refine ko_gq ?_
    | refine ko_gl ?_
    | refine ko_lts ?_ (fun _ _ => ?_)
    | refine ko_ltx (fun _ => ?_)
    | refine ko_bd ?_ (fun _ _ _ => ?_)
    | refine ko_bv ?_ (fun _ _ => ?_)
    | refine ko_sui (by assumption) ?_
    | refine ko_suj (by assumption) ?_
    | refine ko_suc (by assumption) ?_
    | refine ko_suw (by assumption) ?_
    | refine ko_none
  all_goals (intro a k q; have q2 := hP a k q; clear hP q; have q0_ := q2; clear q2)
  all_goals ((repeat' apply And.intro) <;> first | exact trivial | assumption | exact fun e => absurd e.1 (by assumption))

theorem fr_X7_drawStranger {P : Nat → Nat → Prop} {σ0 σ : mm_S} {a0 : Nat} {i1 : Int32} (hP : ∀ a k, P a k → ¬ (a = a0 ∧ k = 5) ∧ ¬ (a = a0 ∧ k = 7)) (h : ko_K P σ0 σ) : ko id P σ0 (f_X7_drawStranger a0 i1 σ) := by
  unfold f_X7_drawStranger
  repeat' with_reducible first
    | assumption
    | refine ko_someV ?_
    | refine ko_someR ?_
    | refine ko_ite ?_ ?_
    | refine ko_gd (fun _ => ?_)
    | refine ko_gz ?_
    | refine ko_gb ?_
    | refine ko_gq ?_
    | refine ko_gl ?_
    | refine ko_lts ?_ (fun _ _ => ?_)
    | refine ko_ltx (fun _ => ?_)
    | refine ko_bd ?_ (fun _ _ _ => ?_)
    | refine ko_bv ?_ (fun _ _ => ?_)
    | refine ko_sui (by assumption) ?_
    | refine ko_suj (by assumption) ?_
    | refine ko_suc (by assumption) ?_
    | refine ko_suw (by assumption) ?_
    | refine ko_none
    | (refine fr_X7_nextDraw ?_ (by assumption))
  all_goals (intro a k q; have q2 := hP a k q; clear hP q; obtain ⟨q0_, q1_⟩ := q2)
  all_goals ((repeat' apply And.intro) <;> first | exact trivial | assumption | exact fun e => absurd e.1 (by assumption))

theorem fr_X4_isWord {P : Nat → Nat → Prop} {σ0 σ : mm_S} {a0 : Nat} {i1 : Int32} (hP : ∀ a k, P a k → True) (h : ko_K P σ0 σ) : ko Prod.snd P σ0 (f_X4_isWord a0 i1 σ) := by
  unfold f_X4_isWord
  repeat' with_reducible first
    | assumption
    | refine ko_someV ?_
    | refine ko_someR ?_
    | refine ko_ite ?_ ?_
    | refine ko_gd (fun _ => ?_)
    | refine ko_gz ?_
    | refine ko_gb ?_
    | refine ko_gq ?_
    | refine ko_gl ?_
    | refine ko_lts ?_ (fun _ _ => ?_)
    | refine ko_ltx (fun _ => ?_)
    | refine ko_bd ?_ (fun _ _ _ => ?_)
    | refine ko_bv ?_ (fun _ _ => ?_)
    | refine ko_sui (by assumption) ?_
    | refine ko_suj (by assumption) ?_
    | refine ko_suc (by assumption) ?_
    | refine ko_suw (by assumption) ?_
    | refine ko_none
  all_goals (intro a k q; have q2 := hP a k q; clear hP q)
  all_goals ((repeat' apply And.intro) <;> first | exact trivial | assumption)

theorem fr_X4_step {P : Nat → Nat → Prop} {σ0 σ : mm_S} {a0 : Nat} (hP : ∀ a k, P a k → ¬ (a = a0 ∧ k = 5) ∧ ¬ (a = a0 ∧ k = 6) ∧ ¬ (a = a0 ∧ k = 7) ∧ ¬ (a = a0 ∧ k = 8)) (h : ko_K P σ0 σ) : ko id P σ0 (f_X4_step a0 σ) := by
  unfold f_X4_step
  repeat' with_reducible first
    | assumption
    | refine ko_someV ?_
    | refine ko_someR ?_
    | refine ko_ite ?_ ?_
    | refine ko_gd (fun _ => ?_)
    | refine ko_gz ?_
    | refine ko_gb ?_
    | refine ko_gq ?_
    | refine ko_gl ?_
    | refine ko_lts ?_ (fun _ _ => ?_)
    | refine ko_ltx (fun _ => ?_)
    | refine ko_bd ?_ (fun _ _ _ => ?_)
    | refine ko_bv ?_ (fun _ _ => ?_)
    | refine ko_sui (by assumption) ?_
    | refine ko_suj (by assumption) ?_
    | refine ko_suc (by assumption) ?_
    | refine ko_suw (by assumption) ?_
    | refine ko_none
  all_goals (intro a k q; have q2 := hP a k q; clear hP q; obtain ⟨q0_, q1_, q2_, q3_⟩ := q2)
  all_goals ((repeat' apply And.intro) <;> first | exact trivial | assumption | exact fun e => absurd e.1 (by assumption))

theorem fr_X4_readTest_b_61 {P : Nat → Nat → Prop} {σ0 σ : mm_S} {rF : Nat → Nat → Int32 → mm_S → Option mm_S} {rT : Nat → Nat → Int32 → mm_S → Option mm_S} {k8 : (Int32 × Int32 × Int32) → mm_S → Option (mm_S)} {a0 : Nat} {a1 : Nat} {i2 : Int32} {i3 : Int32} {i5 : Int32} (hP : ∀ a k, P a k → a ≠ a0 ∧ ¬ (a = a1 ∧ k = 1) ∧ a ≠ a1 + 1) (hrF : ∀ i τ, ko_K P σ0 τ → ko id P σ0 (rF a0 a1 i τ)) (hrT : ∀ i τ, ko_K P σ0 τ → ko id P σ0 (rT a0 a1 i τ)) (hk0 : ∀ v τ, ko_K P σ0 τ → ko id P σ0 (k8 v τ)) (h : ko_K P σ0 σ) : ko id P σ0 (f_X4_readTest_b_61 rF rT k8 a0 a1 i2 i3 i5 σ) := by
  unfold f_X4_readTest_b_61
  repeat' with_reducible first
    | assumption
    | refine ko_someV ?_
    | refine ko_someR ?_
    | refine ko_ite ?_ ?_
    | refine ko_gd (fun _ => ?_)
    | refine ko_gz ?_
    | refine ko_gb ?_
    | refine ko_gq ?_
    | refine ko_gl ?_
    | refine ko_lts ?_ (fun _ _ => ?_)
    | refine ko_ltx (fun _ => ?_)
    | refine ko_bd ?_ (fun _ _ _ => ?_)
    | refine ko_bv ?_ (fun _ _ => ?_)
    | refine ko_sui (by assumption) ?_
    | refine ko_suj (by assumption) ?_
    | refine ko_suc (by assumption) ?_
    | refine ko_suw (by assumption) ?_
    | refine ko_none
    | (apply hk0; assumption)
    | (apply hrF; assumption)
    | (apply hrT; assumption)
    | (refine fr_X4_isWord ?_ (by assumption))
    | (refine fr_X4_step ?_ (by assumption))
  all_goals (intro a k q; have q2 := hP a k q; clear hP q; obtain ⟨q0_, q1_, q2_⟩ := q2)
  all_goals ((repeat' apply And.intro) <;> first | exact trivial | assumption | exact fun e => absurd e.1 (by assumption))

theorem fr_X4_readTest_b_39 {P : Nat → Nat → Prop} {σ0 σ : mm_S} {rF : Nat → Nat → Int32 → mm_S → Option mm_S} {rT : Nat → Nat → Int32 → mm_S → Option mm_S} {k8 : (Int32 × Int32 × Int32) → mm_S → Option (mm_S)} {a0 : Nat} {a1 : Nat} {i2 : Int32} {i4 : Int32} {i5 : Int32} (hP : ∀ a k, P a k → a ≠ a0 ∧ ¬ (a = a1 ∧ k = 1) ∧ a ≠ a1 + 1) (hrF : ∀ i τ, ko_K P σ0 τ → ko id P σ0 (rF a0 a1 i τ)) (hrT : ∀ i τ, ko_K P σ0 τ → ko id P σ0 (rT a0 a1 i τ)) (hk0 : ∀ v τ, ko_K P σ0 τ → ko id P σ0 (k8 v τ)) (h : ko_K P σ0 σ) : ko id P σ0 (f_X4_readTest_b_39 rF rT k8 a0 a1 i2 i4 i5 σ) := by
  unfold f_X4_readTest_b_39
  repeat' with_reducible first
    | assumption
    | refine ko_someV ?_
    | refine ko_someR ?_
    | refine ko_ite ?_ ?_
    | refine ko_gd (fun _ => ?_)
    | refine ko_gz ?_
    | refine ko_gb ?_
    | refine ko_gq ?_
    | refine ko_gl ?_
    | refine ko_lts ?_ (fun _ _ => ?_)
    | refine ko_ltx (fun _ => ?_)
    | refine ko_bd ?_ (fun _ _ _ => ?_)
    | refine ko_bv ?_ (fun _ _ => ?_)
    | refine ko_sui (by assumption) ?_
    | refine ko_suj (by assumption) ?_
    | refine ko_suc (by assumption) ?_
    | refine ko_suw (by assumption) ?_
    | refine ko_none
    | (apply hk0; assumption)
    | (apply hrF; assumption)
    | (apply hrT; assumption)
    | (refine fr_X4_isWord ?_ (by assumption))
    | (refine fr_X4_readTest_b_61 ?_ hrF hrT (by first | exact hk0) (by assumption))
    | (refine fr_X5_add ?_ (by assumption))
    | (refine fr_X4_step ?_ (by assumption))
  all_goals (intro a k q; have q2 := hP a k q; clear hP q; obtain ⟨q0_, q1_, q2_⟩ := q2)
  all_goals ((repeat' apply And.intro) <;> first | exact trivial | assumption | exact fun e => absurd e.1 (by assumption))

theorem fr_X4_readTest_b_8 {P : Nat → Nat → Prop} {σ0 σ : mm_S} {rF : Nat → Nat → Int32 → mm_S → Option mm_S} {rT : Nat → Nat → Int32 → mm_S → Option mm_S} {a0 : Nat} {a1 : Nat} {i2 : Int32} {i3 : Int32} {i4 : Int32} {i5 : Int32} (hP : ∀ a k, P a k → a ≠ a0 ∧ ¬ (a = a1 ∧ k = 1) ∧ a ≠ a1 + 1) (hrF : ∀ i τ, ko_K P σ0 τ → ko id P σ0 (rF a0 a1 i τ)) (hrT : ∀ i τ, ko_K P σ0 τ → ko id P σ0 (rT a0 a1 i τ)) (h : ko_K P σ0 σ) : ko id P σ0 (f_X4_readTest_b_8 rF rT a0 a1 i2 i3 i4 i5 σ) := by
  unfold f_X4_readTest_b_8
  refine ko_lp (fun rec hrec v τ hτ => ?_) lpN _ _ h
  repeat' with_reducible first
    | assumption
    | refine ko_someV ?_
    | refine ko_someR ?_
    | refine ko_ite ?_ ?_
    | refine ko_gd (fun _ => ?_)
    | refine ko_gz ?_
    | refine ko_gb ?_
    | refine ko_gq ?_
    | refine ko_gl ?_
    | refine ko_lts ?_ (fun _ _ => ?_)
    | refine ko_ltx (fun _ => ?_)
    | refine ko_bd ?_ (fun _ _ _ => ?_)
    | refine ko_bv ?_ (fun _ _ => ?_)
    | refine ko_sui (by assumption) ?_
    | refine ko_suj (by assumption) ?_
    | refine ko_suc (by assumption) ?_
    | refine ko_suw (by assumption) ?_
    | refine ko_none
    | (apply hrec; assumption)
    | (apply hrF; assumption)
    | (apply hrT; assumption)
    | (refine fr_X4_readTest_b_39 ?_ hrF hrT (by first | exact hrec) (by assumption))
    | (refine fr_X5_add ?_ (by assumption))
  all_goals (intro a k q; have q2 := hP a k q; clear hP q; obtain ⟨q0_, q1_, q2_⟩ := q2)
  all_goals ((repeat' apply And.intro) <;> first | exact trivial | assumption | exact fun e => absurd e.1 (by assumption))

theorem fr_X4_readTest_b {P : Nat → Nat → Prop} {σ0 σ : mm_S} {rF : Nat → Nat → Int32 → mm_S → Option mm_S} {rT : Nat → Nat → Int32 → mm_S → Option mm_S} {a0 : Nat} {a1 : Nat} {i2 : Int32} (hP : ∀ a k, P a k → a ≠ a0 ∧ ¬ (a = a1 ∧ k = 1) ∧ a ≠ a1 + 1) (hrF : ∀ i τ, ko_K P σ0 τ → ko id P σ0 (rF a0 a1 i τ)) (hrT : ∀ i τ, ko_K P σ0 τ → ko id P σ0 (rT a0 a1 i τ)) (h : ko_K P σ0 σ) : ko id P σ0 (f_X4_readTest_b rF rT a0 a1 i2 σ) := by
  unfold f_X4_readTest_b
  repeat' with_reducible first
    | assumption
    | refine ko_someV ?_
    | refine ko_someR ?_
    | refine ko_ite ?_ ?_
    | refine ko_gd (fun _ => ?_)
    | refine ko_gz ?_
    | refine ko_gb ?_
    | refine ko_gq ?_
    | refine ko_gl ?_
    | refine ko_lts ?_ (fun _ _ => ?_)
    | refine ko_ltx (fun _ => ?_)
    | refine ko_bd ?_ (fun _ _ _ => ?_)
    | refine ko_bv ?_ (fun _ _ => ?_)
    | refine ko_sui (by assumption) ?_
    | refine ko_suj (by assumption) ?_
    | refine ko_suc (by assumption) ?_
    | refine ko_suw (by assumption) ?_
    | refine ko_none
    | (apply hrF; assumption)
    | (apply hrT; assumption)
    | (refine fr_X4_readTest_b_8 ?_ hrF hrT (by assumption))
  all_goals (intro a k q; have q2 := hP a k q; clear hP q; obtain ⟨q0_, q1_, q2_⟩ := q2)
  all_goals ((repeat' apply And.intro) <;> first | exact trivial | assumption | exact fun e => absurd e.1 (by assumption))

theorem fr_X4_isSign {P : Nat → Nat → Prop} {σ0 σ : mm_S} {a0 : Nat} {i1 : Int32} (hP : ∀ a k, P a k → True) (h : ko_K P σ0 σ) : ko Prod.snd P σ0 (f_X4_isSign a0 i1 σ) := by
  unfold f_X4_isSign
  repeat' with_reducible first
    | assumption
    | refine ko_someV ?_
    | refine ko_someR ?_
    | refine ko_ite ?_ ?_
    | refine ko_gd (fun _ => ?_)
    | refine ko_gz ?_
    | refine ko_gb ?_
    | refine ko_gq ?_
    | refine ko_gl ?_
    | refine ko_lts ?_ (fun _ _ => ?_)
    | refine ko_ltx (fun _ => ?_)
    | refine ko_bd ?_ (fun _ _ _ => ?_)
    | refine ko_bv ?_ (fun _ _ => ?_)
    | refine ko_sui (by assumption) ?_
    | refine ko_suj (by assumption) ?_
    | refine ko_suc (by assumption) ?_
    | refine ko_suw (by assumption) ?_
    | refine ko_none
  all_goals (intro a k q; have q2 := hP a k q; clear hP q)
  all_goals ((repeat' apply And.intro) <;> first | exact trivial | assumption)

theorem fr_X4_fail {P : Nat → Nat → Prop} {σ0 σ : mm_S} {a0 : Nat} {i1 : Int32} (hP : ∀ a k, P a k → ¬ (a = a0 ∧ k = 9)) (h : ko_K P σ0 σ) : ko id P σ0 (f_X4_fail a0 i1 σ) := by
  unfold f_X4_fail
  repeat' with_reducible first
    | assumption
    | refine ko_someV ?_
    | refine ko_someR ?_
    | refine ko_ite ?_ ?_
    | refine ko_gd (fun _ => ?_)
    | refine ko_gz ?_
    | refine ko_gb ?_
    | refine ko_gq ?_
    | refine ko_gl ?_
    | refine ko_lts ?_ (fun _ _ => ?_)
    | refine ko_ltx (fun _ => ?_)
    | refine ko_bd ?_ (fun _ _ _ => ?_)
    | refine ko_bv ?_ (fun _ _ => ?_)
    | refine ko_sui (by assumption) ?_
    | refine ko_suj (by assumption) ?_
    | refine ko_suc (by assumption) ?_
    | refine ko_suw (by assumption) ?_
    | refine ko_none
  all_goals (intro a k q; have q2 := hP a k q; clear hP q; have q0_ := q2; clear q2)
  all_goals ((repeat' apply And.intro) <;> first | exact trivial | assumption | exact fun e => absurd e.1 (by assumption))

theorem fr_X4_countPart {P : Nat → Nat → Prop} {σ0 σ : mm_S} {a0 : Nat} (hP : ∀ a k, P a k → ¬ (a = a0 ∧ k = 10) ∧ ¬ (a = a0 ∧ k = 9)) (h : ko_K P σ0 σ) : ko id P σ0 (f_X4_countPart a0 σ) := by
  unfold f_X4_countPart
  repeat' with_reducible first
    | assumption
    | refine ko_someV ?_
    | refine ko_someR ?_
    | refine ko_ite ?_ ?_
    | refine ko_gd (fun _ => ?_)
    | refine ko_gz ?_
    | refine ko_gb ?_
    | refine ko_gq ?_
    | refine ko_gl ?_
    | refine ko_lts ?_ (fun _ _ => ?_)
    | refine ko_ltx (fun _ => ?_)
    | refine ko_bd ?_ (fun _ _ _ => ?_)
    | refine ko_bv ?_ (fun _ _ => ?_)
    | refine ko_sui (by assumption) ?_
    | refine ko_suj (by assumption) ?_
    | refine ko_suc (by assumption) ?_
    | refine ko_suw (by assumption) ?_
    | refine ko_none
    | (refine fr_X4_fail ?_ (by assumption))
  all_goals (intro a k q; have q2 := hP a k q; clear hP q; obtain ⟨q0_, q1_⟩ := q2)
  all_goals ((repeat' apply And.intro) <;> first | exact trivial | assumption | exact fun e => absurd e.1 (by assumption))

theorem fr_X4_readValue_62 {P : Nat → Nat → Prop} {σ0 σ : mm_S} {a0 : Nat} {a1 : Nat} (hP : ∀ a k, P a k → ¬ (a = a0 ∧ k = 10) ∧ ¬ (a = a0 ∧ k = 9) ∧ a ≠ a1 + 1 ∧ ¬ (a = a1 ∧ k = 1) ∧ ¬ (a = a0 ∧ k = 5) ∧ ¬ (a = a0 ∧ k = 6) ∧ ¬ (a = a0 ∧ k = 7) ∧ ¬ (a = a0 ∧ k = 8)) (h : ko_K P σ0 σ) : ko id P σ0 (f_X4_readValue_62 a0 a1 σ) := by
  unfold f_X4_readValue_62
  repeat' with_reducible first
    | assumption
    | refine ko_someV ?_
    | refine ko_someR ?_
    | refine ko_ite ?_ ?_
    | refine ko_gd (fun _ => ?_)
    | refine ko_gz ?_
    | refine ko_gb ?_
    | refine ko_gq ?_
    | refine ko_gl ?_
    | refine ko_lts ?_ (fun _ _ => ?_)
    | refine ko_ltx (fun _ => ?_)
    | refine ko_bd ?_ (fun _ _ _ => ?_)
    | refine ko_bv ?_ (fun _ _ => ?_)
    | refine ko_sui (by assumption) ?_
    | refine ko_suj (by assumption) ?_
    | refine ko_suc (by assumption) ?_
    | refine ko_suw (by assumption) ?_
    | refine ko_none
    | (refine fr_X4_countPart ?_ (by assumption))
    | (refine fr_X5_add ?_ (by assumption))
    | (refine fr_X4_step ?_ (by assumption))
  all_goals (intro a k q; have q2 := hP a k q; clear hP q; obtain ⟨q0_, q1_, q2_, q3_, q4_, q5_, q6_, q7_⟩ := q2)
  all_goals ((repeat' apply And.intro) <;> first | exact trivial | assumption | exact fun e => absurd e.1 (by assumption))

theorem fr_X4_readValue_50 {P : Nat → Nat → Prop} {σ0 σ : mm_S} {a0 : Nat} {a1 : Nat} (hP : ∀ a k, P a k → ¬ (a = a0 ∧ k = 10) ∧ ¬ (a = a0 ∧ k = 9) ∧ a ≠ a1 + 1 ∧ ¬ (a = a1 ∧ k = 1) ∧ ¬ (a = a0 ∧ k = 5) ∧ ¬ (a = a0 ∧ k = 6) ∧ ¬ (a = a0 ∧ k = 7) ∧ ¬ (a = a0 ∧ k = 8)) (h : ko_K P σ0 σ) : ko id P σ0 (f_X4_readValue_50 a0 a1 σ) := by
  unfold f_X4_readValue_50
  repeat' with_reducible first
    | assumption
    | refine ko_someV ?_
    | refine ko_someR ?_
    | refine ko_ite ?_ ?_
    | refine ko_gd (fun _ => ?_)
    | refine ko_gz ?_
    | refine ko_gb ?_
    | refine ko_gq ?_
    | refine ko_gl ?_
    | refine ko_lts ?_ (fun _ _ => ?_)
    | refine ko_ltx (fun _ => ?_)
    | refine ko_bd ?_ (fun _ _ _ => ?_)
    | refine ko_bv ?_ (fun _ _ => ?_)
    | refine ko_sui (by assumption) ?_
    | refine ko_suj (by assumption) ?_
    | refine ko_suc (by assumption) ?_
    | refine ko_suw (by assumption) ?_
    | refine ko_none
    | (refine fr_X4_readValue_62 ?_ (by assumption))
    | (refine fr_X4_fail ?_ (by assumption))
  all_goals (intro a k q; have q2 := hP a k q; clear hP q; obtain ⟨q0_, q1_, q2_, q3_, q4_, q5_, q6_, q7_⟩ := q2)
  all_goals ((repeat' apply And.intro) <;> first | exact trivial | assumption | exact fun e => absurd e.1 (by assumption))

theorem fr_X4_readValue_29 {P : Nat → Nat → Prop} {σ0 σ : mm_S} {a0 : Nat} {a1 : Nat} {s0 : Int32} (hP : ∀ a k, P a k → ¬ (a = a0 ∧ k = 10) ∧ ¬ (a = a0 ∧ k = 9) ∧ a ≠ a1 + 1 ∧ ¬ (a = a1 ∧ k = 1) ∧ ¬ (a = a0 ∧ k = 5) ∧ ¬ (a = a0 ∧ k = 6) ∧ ¬ (a = a0 ∧ k = 7) ∧ ¬ (a = a0 ∧ k = 8)) (h : ko_K P σ0 σ) : ko id P σ0 (f_X4_readValue_29 a0 a1 s0 σ) := by
  unfold f_X4_readValue_29
  repeat' with_reducible first
    | assumption
    | refine ko_someV ?_
    | refine ko_someR ?_
    | refine ko_ite ?_ ?_
    | refine ko_gd (fun _ => ?_)
    | refine ko_gz ?_
    | refine ko_gb ?_
    | refine ko_gq ?_
    | refine ko_gl ?_
    | refine ko_lts ?_ (fun _ _ => ?_)
    | refine ko_ltx (fun _ => ?_)
    | refine ko_bd ?_ (fun _ _ _ => ?_)
    | refine ko_bv ?_ (fun _ _ => ?_)
    | refine ko_sui (by assumption) ?_
    | refine ko_suj (by assumption) ?_
    | refine ko_suc (by assumption) ?_
    | refine ko_suw (by assumption) ?_
    | refine ko_none
    | (refine fr_X4_readValue_50 ?_ (by assumption))
    | (refine fr_X4_fail ?_ (by assumption))
    | (refine fr_X4_readValue_62 ?_ (by assumption))
  all_goals (intro a k q; have q2 := hP a k q; clear hP q; obtain ⟨q0_, q1_, q2_, q3_, q4_, q5_, q6_, q7_⟩ := q2)
  all_goals ((repeat' apply And.intro) <;> first | exact trivial | assumption | exact fun e => absurd e.1 (by assumption))

theorem fr_X4_readValue {P : Nat → Nat → Prop} {σ0 σ : mm_S} {a0 : Nat} {a1 : Nat} (hP : ∀ a k, P a k → ¬ (a = a0 ∧ k = 10) ∧ ¬ (a = a0 ∧ k = 9) ∧ a ≠ a1 + 1 ∧ ¬ (a = a1 ∧ k = 1) ∧ ¬ (a = a0 ∧ k = 5) ∧ ¬ (a = a0 ∧ k = 6) ∧ ¬ (a = a0 ∧ k = 7) ∧ ¬ (a = a0 ∧ k = 8)) (h : ko_K P σ0 σ) : ko id P σ0 (f_X4_readValue a0 a1 σ) := by
  unfold f_X4_readValue
  repeat' with_reducible first
    | assumption
    | refine ko_someV ?_
    | refine ko_someR ?_
    | refine ko_ite ?_ ?_
    | refine ko_gd (fun _ => ?_)
    | refine ko_gz ?_
    | refine ko_gb ?_
    | refine ko_gq ?_
    | refine ko_gl ?_
    | refine ko_lts ?_ (fun _ _ => ?_)
    | refine ko_ltx (fun _ => ?_)
    | refine ko_bd ?_ (fun _ _ _ => ?_)
    | refine ko_bv ?_ (fun _ _ => ?_)
    | refine ko_sui (by assumption) ?_
    | refine ko_suj (by assumption) ?_
    | refine ko_suc (by assumption) ?_
    | refine ko_suw (by assumption) ?_
    | refine ko_none
    | (refine fr_X4_readValue_29 ?_ (by assumption))
  all_goals (intro a k q; have q2 := hP a k q; clear hP q; obtain ⟨q0_, q1_, q2_, q3_, q4_, q5_, q6_, q7_⟩ := q2)
  all_goals ((repeat' apply And.intro) <;> first | exact trivial | assumption | exact fun e => absurd e.1 (by assumption))

theorem fr_X4_readSum_102 {P : Nat → Nat → Prop} {σ0 σ : mm_S} {k7 : (Int32 × Int32 × Int32) → mm_S → Option (mm_S)} {a0 : Nat} {a1 : Nat} {i3 : Int32} {i4 : Int32} (hP : ∀ a k, P a k → ¬ (a = a0 ∧ k = 5) ∧ ¬ (a = a0 ∧ k = 6) ∧ ¬ (a = a0 ∧ k = 7) ∧ ¬ (a = a0 ∧ k = 8)) (hk0 : ∀ v τ, ko_K P σ0 τ → ko id P σ0 (k7 v τ)) (h : ko_K P σ0 σ) : ko id P σ0 (f_X4_readSum_102 k7 a0 a1 i3 i4 σ) := by
  unfold f_X4_readSum_102
  repeat' with_reducible first
    | assumption
    | refine ko_someV ?_
    | refine ko_someR ?_
    | refine ko_ite ?_ ?_
    | refine ko_gd (fun _ => ?_)
    | refine ko_gz ?_
    | refine ko_gb ?_
    | refine ko_gq ?_
    | refine ko_gl ?_
    | refine ko_lts ?_ (fun _ _ => ?_)
    | refine ko_ltx (fun _ => ?_)
    | refine ko_bd ?_ (fun _ _ _ => ?_)
    | refine ko_bv ?_ (fun _ _ => ?_)
    | refine ko_sui (by assumption) ?_
    | refine ko_suj (by assumption) ?_
    | refine ko_suc (by assumption) ?_
    | refine ko_suw (by assumption) ?_
    | refine ko_none
    | (apply hk0; assumption)
    | (refine fr_X4_step ?_ (by assumption))
  all_goals (intro a k q; have q2 := hP a k q; clear hP q; obtain ⟨q0_, q1_, q2_, q3_⟩ := q2)
  all_goals ((repeat' apply And.intro) <;> first | exact trivial | assumption | exact fun e => absurd e.1 (by assumption))

theorem fr_X4_readSum_83 {P : Nat → Nat → Prop} {σ0 σ : mm_S} {k7 : (Int32 × Int32 × Int32) → mm_S → Option (mm_S)} {a0 : Nat} {a1 : Nat} {i3 : Int32} {i4 : Int32} (hP : ∀ a k, P a k → ¬ (a = a0 ∧ k = 5) ∧ ¬ (a = a0 ∧ k = 6) ∧ ¬ (a = a0 ∧ k = 7) ∧ ¬ (a = a0 ∧ k = 8)) (hk0 : ∀ v τ, ko_K P σ0 τ → ko id P σ0 (k7 v τ)) (h : ko_K P σ0 σ) : ko id P σ0 (f_X4_readSum_83 k7 a0 a1 i3 i4 σ) := by
  unfold f_X4_readSum_83
  repeat' with_reducible first
    | assumption
    | refine ko_someV ?_
    | refine ko_someR ?_
    | refine ko_ite ?_ ?_
    | refine ko_gd (fun _ => ?_)
    | refine ko_gz ?_
    | refine ko_gb ?_
    | refine ko_gq ?_
    | refine ko_gl ?_
    | refine ko_lts ?_ (fun _ _ => ?_)
    | refine ko_ltx (fun _ => ?_)
    | refine ko_bd ?_ (fun _ _ _ => ?_)
    | refine ko_bv ?_ (fun _ _ => ?_)
    | refine ko_sui (by assumption) ?_
    | refine ko_suj (by assumption) ?_
    | refine ko_suc (by assumption) ?_
    | refine ko_suw (by assumption) ?_
    | refine ko_none
    | (apply hk0; assumption)
    | (refine fr_X4_isSign ?_ (by assumption))
    | (refine fr_X4_readSum_102 ?_ (by first | exact hk0) (by assumption))
  all_goals (intro a k q; have q2 := hP a k q; clear hP q; obtain ⟨q0_, q1_, q2_, q3_⟩ := q2)
  all_goals ((repeat' apply And.intro) <;> first | exact trivial | assumption | exact fun e => absurd e.1 (by assumption))

theorem fr_X4_readSum_73 {P : Nat → Nat → Prop} {σ0 σ : mm_S} {k7 : (Int32 × Int32 × Int32) → mm_S → Option (mm_S)} {a0 : Nat} {a1 : Nat} {i2 : Int32} {i3 : Int32} {i4 : Int32} (hP : ∀ a k, P a k → ¬ (a = a0 ∧ k = 5) ∧ ¬ (a = a0 ∧ k = 6) ∧ ¬ (a = a0 ∧ k = 7) ∧ ¬ (a = a0 ∧ k = 8) ∧ a ≠ a1 + 1 ∧ ¬ (a = a1 ∧ k = 1)) (hk0 : ∀ v τ, ko_K P σ0 τ → ko id P σ0 (k7 v τ)) (h : ko_K P σ0 σ) : ko id P σ0 (f_X4_readSum_73 k7 a0 a1 i2 i3 i4 σ) := by
  unfold f_X4_readSum_73
  repeat' with_reducible first
    | assumption
    | refine ko_someV ?_
    | refine ko_someR ?_
    | refine ko_ite ?_ ?_
    | refine ko_gd (fun _ => ?_)
    | refine ko_gz ?_
    | refine ko_gb ?_
    | refine ko_gq ?_
    | refine ko_gl ?_
    | refine ko_lts ?_ (fun _ _ => ?_)
    | refine ko_ltx (fun _ => ?_)
    | refine ko_bd ?_ (fun _ _ _ => ?_)
    | refine ko_bv ?_ (fun _ _ => ?_)
    | refine ko_sui (by assumption) ?_
    | refine ko_suj (by assumption) ?_
    | refine ko_suc (by assumption) ?_
    | refine ko_suw (by assumption) ?_
    | refine ko_none
    | (apply hk0; assumption)
    | (refine fr_X4_readSum_83 ?_ (by first | exact hk0) (by assumption))
    | (refine fr_X5_add ?_ (by assumption))
  all_goals (intro a k q; have q2 := hP a k q; clear hP q; obtain ⟨q0_, q1_, q2_, q3_, q4_, q5_⟩ := q2)
  all_goals ((repeat' apply And.intro) <;> first | exact trivial | assumption | exact fun e => absurd e.1 (by assumption))

theorem fr_X4_readSum_39 {P : Nat → Nat → Prop} {σ0 σ : mm_S} {k7 : (Int32 × Int32 × Int32) → mm_S → Option (mm_S)} {a0 : Nat} {a1 : Nat} {i2 : Int32} {i3 : Int32} {i4 : Int32} (hP : ∀ a k, P a k → ¬ (a = a0 ∧ k = 5) ∧ ¬ (a = a0 ∧ k = 6) ∧ ¬ (a = a0 ∧ k = 7) ∧ ¬ (a = a0 ∧ k = 8) ∧ a ≠ a1 + 1 ∧ ¬ (a = a1 ∧ k = 1)) (hk0 : ∀ v τ, ko_K P σ0 τ → ko id P σ0 (k7 v τ)) (h : ko_K P σ0 σ) : ko id P σ0 (f_X4_readSum_39 k7 a0 a1 i2 i3 i4 σ) := by
  unfold f_X4_readSum_39
  repeat' with_reducible first
    | assumption
    | refine ko_someV ?_
    | refine ko_someR ?_
    | refine ko_ite ?_ ?_
    | refine ko_gd (fun _ => ?_)
    | refine ko_gz ?_
    | refine ko_gb ?_
    | refine ko_gq ?_
    | refine ko_gl ?_
    | refine ko_lts ?_ (fun _ _ => ?_)
    | refine ko_ltx (fun _ => ?_)
    | refine ko_bd ?_ (fun _ _ _ => ?_)
    | refine ko_bv ?_ (fun _ _ => ?_)
    | refine ko_sui (by assumption) ?_
    | refine ko_suj (by assumption) ?_
    | refine ko_suc (by assumption) ?_
    | refine ko_suw (by assumption) ?_
    | refine ko_none
    | (apply hk0; assumption)
    | (refine fr_X4_readSum_73 ?_ (by first | exact hk0) (by assumption))
    | (refine fr_X4_step ?_ (by assumption))
  all_goals (intro a k q; have q2 := hP a k q; clear hP q; obtain ⟨q0_, q1_, q2_, q3_, q4_, q5_⟩ := q2)
  all_goals ((repeat' apply And.intro) <;> first | exact trivial | assumption | exact fun e => absurd e.1 (by assumption))

theorem fr_X4_readSum_7 {P : Nat → Nat → Prop} {σ0 σ : mm_S} {a0 : Nat} {a1 : Nat} {i2 : Int32} {i3 : Int32} {i4 : Int32} (hP : ∀ a k, P a k → ¬ (a = a0 ∧ k = 10) ∧ ¬ (a = a0 ∧ k = 9) ∧ a ≠ a1 + 1 ∧ ¬ (a = a1 ∧ k = 1) ∧ ¬ (a = a0 ∧ k = 5) ∧ ¬ (a = a0 ∧ k = 6) ∧ ¬ (a = a0 ∧ k = 7) ∧ ¬ (a = a0 ∧ k = 8)) (h : ko_K P σ0 σ) : ko id P σ0 (f_X4_readSum_7 a0 a1 i2 i3 i4 σ) := by
  unfold f_X4_readSum_7
  refine ko_lp (fun rec hrec v τ hτ => ?_) lpN _ _ h
  repeat' with_reducible first
    | assumption
    | refine ko_someV ?_
    | refine ko_someR ?_
    | refine ko_ite ?_ ?_
    | refine ko_gd (fun _ => ?_)
    | refine ko_gz ?_
    | refine ko_gb ?_
    | refine ko_gq ?_
    | refine ko_gl ?_
    | refine ko_lts ?_ (fun _ _ => ?_)
    | refine ko_ltx (fun _ => ?_)
    | refine ko_bd ?_ (fun _ _ _ => ?_)
    | refine ko_bv ?_ (fun _ _ => ?_)
    | refine ko_sui (by assumption) ?_
    | refine ko_suj (by assumption) ?_
    | refine ko_suc (by assumption) ?_
    | refine ko_suw (by assumption) ?_
    | refine ko_none
    | (apply hrec; assumption)
    | (refine fr_X4_readValue ?_ (by assumption))
    | (refine fr_X4_readSum_39 ?_ (by first | exact hrec) (by assumption))
    | (refine fr_X5_add ?_ (by assumption))
  all_goals (intro a k q; have q2 := hP a k q; clear hP q; obtain ⟨q0_, q1_, q2_, q3_, q4_, q5_, q6_, q7_⟩ := q2)
  all_goals ((repeat' apply And.intro) <;> first | exact trivial | assumption | exact fun e => absurd e.1 (by assumption))

theorem fr_X4_readSum {P : Nat → Nat → Prop} {σ0 σ : mm_S} {a0 : Nat} {a1 : Nat} (hP : ∀ a k, P a k → ¬ (a = a0 ∧ k = 10) ∧ ¬ (a = a0 ∧ k = 9) ∧ a ≠ a1 + 1 ∧ ¬ (a = a1 ∧ k = 1) ∧ ¬ (a = a0 ∧ k = 5) ∧ ¬ (a = a0 ∧ k = 6) ∧ ¬ (a = a0 ∧ k = 7) ∧ ¬ (a = a0 ∧ k = 8)) (h : ko_K P σ0 σ) : ko id P σ0 (f_X4_readSum a0 a1 σ) := by
  unfold f_X4_readSum
  repeat' with_reducible first
    | assumption
    | refine ko_someV ?_
    | refine ko_someR ?_
    | refine ko_ite ?_ ?_
    | refine ko_gd (fun _ => ?_)
    | refine ko_gz ?_
    | refine ko_gb ?_
    | refine ko_gq ?_
    | refine ko_gl ?_
    | refine ko_lts ?_ (fun _ _ => ?_)
    | refine ko_ltx (fun _ => ?_)
    | refine ko_bd ?_ (fun _ _ _ => ?_)
    | refine ko_bv ?_ (fun _ _ => ?_)
    | refine ko_sui (by assumption) ?_
    | refine ko_suj (by assumption) ?_
    | refine ko_suc (by assumption) ?_
    | refine ko_suw (by assumption) ?_
    | refine ko_none
    | (refine fr_X4_readSum_7 ?_ (by assumption))
  all_goals (intro a k q; have q2 := hP a k q; clear hP q; obtain ⟨q0_, q1_, q2_, q3_, q4_, q5_, q6_, q7_⟩ := q2)
  all_goals ((repeat' apply And.intro) <;> first | exact trivial | assumption | exact fun e => absurd e.1 (by assumption))

theorem fr_X4_readFact_b_139 {P : Nat → Nat → Prop} {σ0 σ : mm_S} {rF : Nat → Nat → Int32 → mm_S → Option mm_S} {rT : Nat → Nat → Int32 → mm_S → Option mm_S} {a0 : Nat} {a1 : Nat} {i5 : Int32} (hP : ∀ a k, P a k → a ≠ a1 + 1 ∧ ¬ (a = a1 ∧ k = 1) ∧ a ≠ a0) (hrF : ∀ i τ, ko_K P σ0 τ → ko id P σ0 (rF a0 a1 i τ)) (hrT : ∀ i τ, ko_K P σ0 τ → ko id P σ0 (rT a0 a1 i τ)) (h : ko_K P σ0 σ) : ko id P σ0 (f_X4_readFact_b_139 rF rT a0 a1 i5 σ) := by
  unfold f_X4_readFact_b_139
  repeat' with_reducible first
    | assumption
    | refine ko_someV ?_
    | refine ko_someR ?_
    | refine ko_ite ?_ ?_
    | refine ko_gd (fun _ => ?_)
    | refine ko_gz ?_
    | refine ko_gb ?_
    | refine ko_gq ?_
    | refine ko_gl ?_
    | refine ko_lts ?_ (fun _ _ => ?_)
    | refine ko_ltx (fun _ => ?_)
    | refine ko_bd ?_ (fun _ _ _ => ?_)
    | refine ko_bv ?_ (fun _ _ => ?_)
    | refine ko_sui (by assumption) ?_
    | refine ko_suj (by assumption) ?_
    | refine ko_suc (by assumption) ?_
    | refine ko_suw (by assumption) ?_
    | refine ko_none
    | (apply hrF; assumption)
    | (apply hrT; assumption)
    | (refine fr_X4_countPart ?_ (by assumption))
    | (refine fr_X4_step ?_ (by assumption))
    | (refine fr_X4_readSum ?_ (by assumption))
    | (refine fr_X5_add ?_ (by assumption))
  all_goals (intro a k q; have q2 := hP a k q; clear hP q; obtain ⟨q0_, q1_, q2_⟩ := q2)
  all_goals ((repeat' apply And.intro) <;> first | exact trivial | assumption | exact fun e => absurd e.1 (by assumption))

theorem fr_X4_readFact_b_38 {P : Nat → Nat → Prop} {σ0 σ : mm_S} {rF : Nat → Nat → Int32 → mm_S → Option mm_S} {rT : Nat → Nat → Int32 → mm_S → Option mm_S} {a0 : Nat} {a1 : Nat} {i2 : Int32} {i3 : Int32} {i4 : Int32} (hP : ∀ a k, P a k → a ≠ a1 + 1 ∧ ¬ (a = a1 ∧ k = 1) ∧ a ≠ a0) (hrF : ∀ i τ, ko_K P σ0 τ → ko id P σ0 (rF a0 a1 i τ)) (hrT : ∀ i τ, ko_K P σ0 τ → ko id P σ0 (rT a0 a1 i τ)) (h : ko_K P σ0 σ) : ko id P σ0 (f_X4_readFact_b_38 rF rT a0 a1 i2 i3 i4 σ) := by
  unfold f_X4_readFact_b_38
  repeat' with_reducible first
    | assumption
    | refine ko_someV ?_
    | refine ko_someR ?_
    | refine ko_ite ?_ ?_
    | refine ko_gd (fun _ => ?_)
    | refine ko_gz ?_
    | refine ko_gb ?_
    | refine ko_gq ?_
    | refine ko_gl ?_
    | refine ko_lts ?_ (fun _ _ => ?_)
    | refine ko_ltx (fun _ => ?_)
    | refine ko_bd ?_ (fun _ _ _ => ?_)
    | refine ko_bv ?_ (fun _ _ => ?_)
    | refine ko_sui (by assumption) ?_
    | refine ko_suj (by assumption) ?_
    | refine ko_suc (by assumption) ?_
    | refine ko_suw (by assumption) ?_
    | refine ko_none
    | (apply hrF; assumption)
    | (apply hrT; assumption)
    | (refine fr_X4_readSum ?_ (by assumption))
    | (refine fr_X4_fail ?_ (by assumption))
    | (refine fr_X4_readFact_b_139 ?_ hrF hrT (by assumption))
    | (refine fr_X4_step ?_ (by assumption))
    | (refine fr_X4_isSign ?_ (by assumption))
    | (refine fr_X5_add ?_ (by assumption))
  all_goals (intro a k q; have q2 := hP a k q; clear hP q; obtain ⟨q0_, q1_, q2_⟩ := q2)
  all_goals ((repeat' apply And.intro) <;> first | exact trivial | assumption | exact fun e => absurd e.1 (by assumption))

theorem fr_X4_readFact_b_24 {P : Nat → Nat → Prop} {σ0 σ : mm_S} {rF : Nat → Nat → Int32 → mm_S → Option mm_S} {rT : Nat → Nat → Int32 → mm_S → Option mm_S} {a0 : Nat} {a1 : Nat} {i2 : Int32} {i3 : Int32} {i4 : Int32} (hP : ∀ a k, P a k → a ≠ a1 + 1 ∧ ¬ (a = a1 ∧ k = 1) ∧ a ≠ a0) (hrF : ∀ i τ, ko_K P σ0 τ → ko id P σ0 (rF a0 a1 i τ)) (hrT : ∀ i τ, ko_K P σ0 τ → ko id P σ0 (rT a0 a1 i τ)) (h : ko_K P σ0 σ) : ko id P σ0 (f_X4_readFact_b_24 rF rT a0 a1 i2 i3 i4 σ) := by
  unfold f_X4_readFact_b_24
  repeat' with_reducible first
    | assumption
    | refine ko_someV ?_
    | refine ko_someR ?_
    | refine ko_ite ?_ ?_
    | refine ko_gd (fun _ => ?_)
    | refine ko_gz ?_
    | refine ko_gb ?_
    | refine ko_gq ?_
    | refine ko_gl ?_
    | refine ko_lts ?_ (fun _ _ => ?_)
    | refine ko_ltx (fun _ => ?_)
    | refine ko_bd ?_ (fun _ _ _ => ?_)
    | refine ko_bv ?_ (fun _ _ => ?_)
    | refine ko_sui (by assumption) ?_
    | refine ko_suj (by assumption) ?_
    | refine ko_suc (by assumption) ?_
    | refine ko_suw (by assumption) ?_
    | refine ko_none
    | (apply hrF; assumption)
    | (apply hrT; assumption)
    | (refine fr_X4_readFact_b_38 ?_ hrF hrT (by assumption))
    | (refine fr_X4_fail ?_ (by assumption))
  all_goals (intro a k q; have q2 := hP a k q; clear hP q; obtain ⟨q0_, q1_, q2_⟩ := q2)
  all_goals ((repeat' apply And.intro) <;> first | exact trivial | assumption | exact fun e => absurd e.1 (by assumption))

theorem fr_X4_readFact_b {P : Nat → Nat → Prop} {σ0 σ : mm_S} {rF : Nat → Nat → Int32 → mm_S → Option mm_S} {rT : Nat → Nat → Int32 → mm_S → Option mm_S} {a0 : Nat} {a1 : Nat} {i2 : Int32} (hP : ∀ a k, P a k → a ≠ a1 + 1 ∧ ¬ (a = a1 ∧ k = 1) ∧ a ≠ a0) (hrF : ∀ i τ, ko_K P σ0 τ → ko id P σ0 (rF a0 a1 i τ)) (hrT : ∀ i τ, ko_K P σ0 τ → ko id P σ0 (rT a0 a1 i τ)) (h : ko_K P σ0 σ) : ko id P σ0 (f_X4_readFact_b rF rT a0 a1 i2 σ) := by
  unfold f_X4_readFact_b
  repeat' with_reducible first
    | assumption
    | refine ko_someV ?_
    | refine ko_someR ?_
    | refine ko_ite ?_ ?_
    | refine ko_gd (fun _ => ?_)
    | refine ko_gz ?_
    | refine ko_gb ?_
    | refine ko_gq ?_
    | refine ko_gl ?_
    | refine ko_lts ?_ (fun _ _ => ?_)
    | refine ko_ltx (fun _ => ?_)
    | refine ko_bd ?_ (fun _ _ _ => ?_)
    | refine ko_bv ?_ (fun _ _ => ?_)
    | refine ko_sui (by assumption) ?_
    | refine ko_suj (by assumption) ?_
    | refine ko_suc (by assumption) ?_
    | refine ko_suw (by assumption) ?_
    | refine ko_none
    | (apply hrF; assumption)
    | (apply hrT; assumption)
    | (refine fr_X4_isWord ?_ (by assumption))
    | (refine fr_X4_isSign ?_ (by assumption))
    | (refine fr_X4_readFact_b_38 ?_ hrF hrT (by assumption))
    | (refine fr_X4_readFact_b_24 ?_ hrF hrT (by assumption))
  all_goals (intro a k q; have q2 := hP a k q; clear hP q; obtain ⟨q0_, q1_, q2_⟩ := q2)
  all_goals ((repeat' apply And.intro) <;> first | exact trivial | assumption | exact fun e => absurd e.1 (by assumption))

theorem fr_X4_rec {P : Nat → Nat → Prop} {σ0 : mm_S} : ∀ (n : Nat) (b : Bool) {a0 a1 : Nat} {i2 : Int32} {σ : mm_S}, (∀ a k, P a k → a ≠ a0 ∧ ¬ (a = a1 ∧ k = 1) ∧ a ≠ a1 + 1) → ko_K P σ0 σ → ko id P σ0 (f_X4_rec n b a0 a1 i2 σ) := by
  intro n
  induction n with
  | zero => intro b a0 a1 i2 σ hP h; intro r e; cases b <;> cases e
  | succ n ih =>
    intro b a0 a1 i2 σ hP h
    cases b with
    | true => exact fr_X4_readTest_b (fun a k q => by obtain ⟨x, y, z⟩ := hP a k q; (repeat' apply And.intro) <;> assumption) (fun i τ hτ => ih false hP hτ) (fun i τ hτ => ih true hP hτ) h
    | false => exact fr_X4_readFact_b (fun a k q => by obtain ⟨x, y, z⟩ := hP a k q; (repeat' apply And.intro) <;> assumption) (fun i τ hτ => ih false hP hτ) (fun i τ hτ => ih true hP hτ) h

theorem fr_X4_readTest {P : Nat → Nat → Prop} {σ0 σ : mm_S} {a0 : Nat} {a1 : Nat} {i2 : Int32} (hP : ∀ a k, P a k → a ≠ a0 ∧ ¬ (a = a1 ∧ k = 1) ∧ a ≠ a1 + 1) (h : ko_K P σ0 σ) : ko id P σ0 (f_X4_readTest a0 a1 i2 σ) := by
  unfold f_X4_readTest
  repeat' with_reducible first
    | assumption
    | refine ko_someV ?_
    | refine ko_someR ?_
    | refine ko_ite ?_ ?_
    | refine ko_gd (fun _ => ?_)
    | refine ko_gz ?_
    | refine ko_gb ?_
    | refine ko_gq ?_
    | refine ko_gl ?_
    | refine ko_lts ?_ (fun _ _ => ?_)
    | refine ko_ltx (fun _ => ?_)
    | refine ko_bd ?_ (fun _ _ _ => ?_)
    | refine ko_bv ?_ (fun _ _ => ?_)
    | refine ko_sui (by assumption) ?_
    | refine ko_suj (by assumption) ?_
    | refine ko_suc (by assumption) ?_
    | refine ko_suw (by assumption) ?_
    | refine ko_none
    | (refine fr_X4_rec _ _ ?_ (by assumption))
  all_goals (intro a k q; have q2 := hP a k q; clear hP q; obtain ⟨q0_, q1_, q2_⟩ := q2)
  all_goals ((repeat' apply And.intro) <;> first | exact trivial | assumption | exact fun e => absurd e.1 (by assumption))

theorem fr_X4_isLetter {P : Nat → Nat → Prop} {σ0 σ : mm_S} {a0 : Nat} {i1 : Int32} (hP : ∀ a k, P a k → True) (h : ko_K P σ0 σ) : ko Prod.snd P σ0 (f_X4_isLetter a0 i1 σ) := by
  unfold f_X4_isLetter
  repeat' with_reducible first
    | assumption
    | refine ko_someV ?_
    | refine ko_someR ?_
    | refine ko_ite ?_ ?_
    | refine ko_gd (fun _ => ?_)
    | refine ko_gz ?_
    | refine ko_gb ?_
    | refine ko_gq ?_
    | refine ko_gl ?_
    | refine ko_lts ?_ (fun _ _ => ?_)
    | refine ko_ltx (fun _ => ?_)
    | refine ko_bd ?_ (fun _ _ _ => ?_)
    | refine ko_bv ?_ (fun _ _ => ?_)
    | refine ko_sui (by assumption) ?_
    | refine ko_suj (by assumption) ?_
    | refine ko_suc (by assumption) ?_
    | refine ko_suw (by assumption) ?_
    | refine ko_none
  all_goals (intro a k q; have q2 := hP a k q; clear hP q)
  all_goals ((repeat' apply And.intro) <;> first | exact trivial | assumption)

theorem fr_X4_wordEnd_4 {P : Nat → Nat → Prop} {σ0 σ : mm_S} {a0 : Nat} {i2 : Int32} (hP : ∀ a k, P a k → True) (h : ko_K P σ0 σ) : ko Prod.snd P σ0 (f_X4_wordEnd_4 a0 i2 σ) := by
  unfold f_X4_wordEnd_4
  refine ko_lp (fun rec hrec v τ hτ => ?_) lpN _ _ h
  repeat' with_reducible first
    | assumption
    | refine ko_someV ?_
    | refine ko_someR ?_
    | refine ko_ite ?_ ?_
    | refine ko_gd (fun _ => ?_)
    | refine ko_gz ?_
    | refine ko_gb ?_
    | refine ko_gq ?_
    | refine ko_gl ?_
    | refine ko_lts ?_ (fun _ _ => ?_)
    | refine ko_ltx (fun _ => ?_)
    | refine ko_bd ?_ (fun _ _ _ => ?_)
    | refine ko_bv ?_ (fun _ _ => ?_)
    | refine ko_sui (by assumption) ?_
    | refine ko_suj (by assumption) ?_
    | refine ko_suc (by assumption) ?_
    | refine ko_suw (by assumption) ?_
    | refine ko_none
    | (apply hrec; assumption)
    | (refine fr_X4_isLetter ?_ (by assumption))
  all_goals (intro a k q; have q2 := hP a k q; clear hP q)
  all_goals ((repeat' apply And.intro) <;> first | exact trivial | assumption)

theorem fr_X4_wordEnd {P : Nat → Nat → Prop} {σ0 σ : mm_S} {a0 : Nat} {i1 : Int32} (hP : ∀ a k, P a k → True) (h : ko_K P σ0 σ) : ko Prod.snd P σ0 (f_X4_wordEnd a0 i1 σ) := by
  unfold f_X4_wordEnd
  repeat' with_reducible first
    | assumption
    | refine ko_someV ?_
    | refine ko_someR ?_
    | refine ko_ite ?_ ?_
    | refine ko_gd (fun _ => ?_)
    | refine ko_gz ?_
    | refine ko_gb ?_
    | refine ko_gq ?_
    | refine ko_gl ?_
    | refine ko_lts ?_ (fun _ _ => ?_)
    | refine ko_ltx (fun _ => ?_)
    | refine ko_bd ?_ (fun _ _ _ => ?_)
    | refine ko_bv ?_ (fun _ _ => ?_)
    | refine ko_sui (by assumption) ?_
    | refine ko_suj (by assumption) ?_
    | refine ko_suc (by assumption) ?_
    | refine ko_suw (by assumption) ?_
    | refine ko_none
    | (refine fr_X4_wordEnd_4 ?_ (by assumption))
  all_goals (intro a k q; have q2 := hP a k q; clear hP q)
  all_goals ((repeat' apply And.intro) <;> first | exact trivial | assumption)

theorem fr_X4_wordOf_89 {P : Nat → Nat → Prop} {σ0 σ : mm_S} {k11 : (Int32 × Int32 × Int32 × Int32) → mm_S → Option (Int32 × mm_S)} {a0 : Nat} {i1 : Int32} {i2 : Int32} {i3 : Int32} {i6 : Int32} (hP : ∀ a k, P a k → True) (hk0 : ∀ v τ, ko_K P σ0 τ → ko Prod.snd P σ0 (k11 v τ)) (h : ko_K P σ0 σ) : ko Prod.snd P σ0 (f_X4_wordOf_89 k11 a0 i1 i2 i3 i6 σ) := by
  unfold f_X4_wordOf_89
  repeat' with_reducible first
    | assumption
    | refine ko_someV ?_
    | refine ko_someR ?_
    | refine ko_ite ?_ ?_
    | refine ko_gd (fun _ => ?_)
    | refine ko_gz ?_
    | refine ko_gb ?_
    | refine ko_gq ?_
    | refine ko_gl ?_
    | refine ko_lts ?_ (fun _ _ => ?_)
    | refine ko_ltx (fun _ => ?_)
    | refine ko_bd ?_ (fun _ _ _ => ?_)
    | refine ko_bv ?_ (fun _ _ => ?_)
    | refine ko_sui (by assumption) ?_
    | refine ko_suj (by assumption) ?_
    | refine ko_suc (by assumption) ?_
    | refine ko_suw (by assumption) ?_
    | refine ko_none
    | (apply hk0; assumption)
  all_goals (intro a k q; have q2 := hP a k q; clear hP q)
  all_goals ((repeat' apply And.intro) <;> first | exact trivial | assumption)

theorem fr_X4_wordOf_68 {P : Nat → Nat → Prop} {σ0 σ : mm_S} {k11 : (Int32 × Int32 × Int32 × Int32) → mm_S → Option (Int32 × mm_S)} {a0 : Nat} {i1 : Int32} {i2 : Int32} {i3 : Int32} {i4 : Int32} {i6 : Int32} {s0 : Int32} (hP : ∀ a k, P a k → True) (hk0 : ∀ v τ, ko_K P σ0 τ → ko Prod.snd P σ0 (k11 v τ)) (h : ko_K P σ0 σ) : ko Prod.snd P σ0 (f_X4_wordOf_68 k11 a0 i1 i2 i3 i4 i6 s0 σ) := by
  unfold f_X4_wordOf_68
  repeat' with_reducible first
    | assumption
    | refine ko_someV ?_
    | refine ko_someR ?_
    | refine ko_ite ?_ ?_
    | refine ko_gd (fun _ => ?_)
    | refine ko_gz ?_
    | refine ko_gb ?_
    | refine ko_gq ?_
    | refine ko_gl ?_
    | refine ko_lts ?_ (fun _ _ => ?_)
    | refine ko_ltx (fun _ => ?_)
    | refine ko_bd ?_ (fun _ _ _ => ?_)
    | refine ko_bv ?_ (fun _ _ => ?_)
    | refine ko_sui (by assumption) ?_
    | refine ko_suj (by assumption) ?_
    | refine ko_suc (by assumption) ?_
    | refine ko_suw (by assumption) ?_
    | refine ko_none
    | (apply hk0; assumption)
  all_goals (intro a k q; have q2 := hP a k q; clear hP q)
  all_goals ((repeat' apply And.intro) <;> first | exact trivial | assumption)

theorem fr_X4_wordOf_11 {P : Nat → Nat → Prop} {σ0 σ : mm_S} {a0 : Nat} {i1 : Int32} {i2 : Int32} {i3 : Int32} {i4 : Int32} {i5 : Int32} {i6 : Int32} (hP : ∀ a k, P a k → True) (h : ko_K P σ0 σ) : ko Prod.snd P σ0 (f_X4_wordOf_11 a0 i1 i2 i3 i4 i5 i6 σ) := by
  unfold f_X4_wordOf_11
  refine ko_lp (fun rec hrec v τ hτ => ?_) lpN _ _ h
  repeat' with_reducible first
    | assumption
    | refine ko_someV ?_
    | refine ko_someR ?_
    | refine ko_ite ?_ ?_
    | refine ko_gd (fun _ => ?_)
    | refine ko_gz ?_
    | refine ko_gb ?_
    | refine ko_gq ?_
    | refine ko_gl ?_
    | refine ko_lts ?_ (fun _ _ => ?_)
    | refine ko_ltx (fun _ => ?_)
    | refine ko_bd ?_ (fun _ _ _ => ?_)
    | refine ko_bv ?_ (fun _ _ => ?_)
    | refine ko_sui (by assumption) ?_
    | refine ko_suj (by assumption) ?_
    | refine ko_suc (by assumption) ?_
    | refine ko_suw (by assumption) ?_
    | refine ko_none
    | (apply hrec; assumption)
    | (refine fr_X4_wordOf_89 ?_ (by first | exact hrec) (by assumption))
    | (refine fr_X4_wordOf_68 ?_ (by first | exact hrec) (by assumption))
  all_goals (intro a k q; have q2 := hP a k q; clear hP q)
  all_goals ((repeat' apply And.intro) <;> first | exact trivial | assumption)

theorem fr_X4_wordOf {P : Nat → Nat → Prop} {σ0 σ : mm_S} {a0 : Nat} {i1 : Int32} {i2 : Int32} (hP : ∀ a k, P a k → True) (h : ko_K P σ0 σ) : ko Prod.snd P σ0 (f_X4_wordOf a0 i1 i2 σ) := by
  unfold f_X4_wordOf
  repeat' with_reducible first
    | assumption
    | refine ko_someV ?_
    | refine ko_someR ?_
    | refine ko_ite ?_ ?_
    | refine ko_gd (fun _ => ?_)
    | refine ko_gz ?_
    | refine ko_gb ?_
    | refine ko_gq ?_
    | refine ko_gl ?_
    | refine ko_lts ?_ (fun _ _ => ?_)
    | refine ko_ltx (fun _ => ?_)
    | refine ko_bd ?_ (fun _ _ _ => ?_)
    | refine ko_bv ?_ (fun _ _ => ?_)
    | refine ko_sui (by assumption) ?_
    | refine ko_suj (by assumption) ?_
    | refine ko_suc (by assumption) ?_
    | refine ko_suw (by assumption) ?_
    | refine ko_none
    | (refine fr_X4_wordOf_11 ?_ (by assumption))
  all_goals (intro a k q; have q2 := hP a k q; clear hP q)
  all_goals ((repeat' apply And.intro) <;> first | exact trivial | assumption)

theorem fr_X4_addPiece {P : Nat → Nat → Prop} {σ0 σ : mm_S} {a0 : Nat} {i1 : Int32} {i2 : Int32} {i3 : Int32} (hP : ∀ a k, P a k → a ≠ 4 ∧ a ≠ 5 ∧ a ≠ 6 ∧ ¬ (a = a0 ∧ k = 4)) (h : ko_K P σ0 σ) : ko id P σ0 (f_X4_addPiece a0 i1 i2 i3 σ) := by
  unfold f_X4_addPiece
  repeat' with_reducible first
    | assumption
    | refine ko_someV ?_
    | refine ko_someR ?_
    | refine ko_ite ?_ ?_
    | refine ko_gd (fun _ => ?_)
    | refine ko_gz ?_
    | refine ko_gb ?_
    | refine ko_gq ?_
    | refine ko_gl ?_
    | refine ko_lts ?_ (fun _ _ => ?_)
    | refine ko_ltx (fun _ => ?_)
    | refine ko_bd ?_ (fun _ _ _ => ?_)
    | refine ko_bv ?_ (fun _ _ => ?_)
    | refine ko_sui (by assumption) ?_
    | refine ko_suj (by assumption) ?_
    | refine ko_suc (by assumption) ?_
    | refine ko_suw (by assumption) ?_
    | refine ko_none
  all_goals (intro a k q; have q2 := hP a k q; clear hP q; obtain ⟨q0_, q1_, q2_, q3_⟩ := q2)
  all_goals ((repeat' apply And.intro) <;> first | exact trivial | assumption | exact fun e => absurd e.1 (by assumption))

theorem fr_X4_isDigit {P : Nat → Nat → Prop} {σ0 σ : mm_S} {a0 : Nat} {i1 : Int32} (hP : ∀ a k, P a k → True) (h : ko_K P σ0 σ) : ko Prod.snd P σ0 (f_X4_isDigit a0 i1 σ) := by
  unfold f_X4_isDigit
  repeat' with_reducible first
    | assumption
    | refine ko_someV ?_
    | refine ko_someR ?_
    | refine ko_ite ?_ ?_
    | refine ko_gd (fun _ => ?_)
    | refine ko_gz ?_
    | refine ko_gb ?_
    | refine ko_gq ?_
    | refine ko_gl ?_
    | refine ko_lts ?_ (fun _ _ => ?_)
    | refine ko_ltx (fun _ => ?_)
    | refine ko_bd ?_ (fun _ _ _ => ?_)
    | refine ko_bv ?_ (fun _ _ => ?_)
    | refine ko_sui (by assumption) ?_
    | refine ko_suj (by assumption) ?_
    | refine ko_suc (by assumption) ?_
    | refine ko_suw (by assumption) ?_
    | refine ko_none
  all_goals (intro a k q; have q2 := hP a k q; clear hP q)
  all_goals ((repeat' apply And.intro) <;> first | exact trivial | assumption)

theorem fr_X4_numberEnd_4 {P : Nat → Nat → Prop} {σ0 σ : mm_S} {a0 : Nat} {i2 : Int32} (hP : ∀ a k, P a k → True) (h : ko_K P σ0 σ) : ko Prod.snd P σ0 (f_X4_numberEnd_4 a0 i2 σ) := by
  unfold f_X4_numberEnd_4
  refine ko_lp (fun rec hrec v τ hτ => ?_) lpN _ _ h
  repeat' with_reducible first
    | assumption
    | refine ko_someV ?_
    | refine ko_someR ?_
    | refine ko_ite ?_ ?_
    | refine ko_gd (fun _ => ?_)
    | refine ko_gz ?_
    | refine ko_gb ?_
    | refine ko_gq ?_
    | refine ko_gl ?_
    | refine ko_lts ?_ (fun _ _ => ?_)
    | refine ko_ltx (fun _ => ?_)
    | refine ko_bd ?_ (fun _ _ _ => ?_)
    | refine ko_bv ?_ (fun _ _ => ?_)
    | refine ko_sui (by assumption) ?_
    | refine ko_suj (by assumption) ?_
    | refine ko_suc (by assumption) ?_
    | refine ko_suw (by assumption) ?_
    | refine ko_none
    | (apply hrec; assumption)
    | (refine fr_X4_isDigit ?_ (by assumption))
  all_goals (intro a k q; have q2 := hP a k q; clear hP q)
  all_goals ((repeat' apply And.intro) <;> first | exact trivial | assumption)

theorem fr_X4_numberEnd {P : Nat → Nat → Prop} {σ0 σ : mm_S} {a0 : Nat} {i1 : Int32} (hP : ∀ a k, P a k → True) (h : ko_K P σ0 σ) : ko Prod.snd P σ0 (f_X4_numberEnd a0 i1 σ) := by
  unfold f_X4_numberEnd
  repeat' with_reducible first
    | assumption
    | refine ko_someV ?_
    | refine ko_someR ?_
    | refine ko_ite ?_ ?_
    | refine ko_gd (fun _ => ?_)
    | refine ko_gz ?_
    | refine ko_gb ?_
    | refine ko_gq ?_
    | refine ko_gl ?_
    | refine ko_lts ?_ (fun _ _ => ?_)
    | refine ko_ltx (fun _ => ?_)
    | refine ko_bd ?_ (fun _ _ _ => ?_)
    | refine ko_bv ?_ (fun _ _ => ?_)
    | refine ko_sui (by assumption) ?_
    | refine ko_suj (by assumption) ?_
    | refine ko_suc (by assumption) ?_
    | refine ko_suw (by assumption) ?_
    | refine ko_none
    | (refine fr_X4_numberEnd_4 ?_ (by assumption))
  all_goals (intro a k q; have q2 := hP a k q; clear hP q)
  all_goals ((repeat' apply And.intro) <;> first | exact trivial | assumption)

theorem fr_X4_numberOf_14 {P : Nat → Nat → Prop} {σ0 σ : mm_S} {a0 : Nat} {i2 : Int32} {i3 : Int32} {i4 : Int32} (hP : ∀ a k, P a k → True) (h : ko_K P σ0 σ) : ko Prod.snd P σ0 (f_X4_numberOf_14 a0 i2 i3 i4 σ) := by
  unfold f_X4_numberOf_14
  refine ko_lp (fun rec hrec v τ hτ => ?_) lpN _ _ h
  repeat' with_reducible first
    | assumption
    | refine ko_someV ?_
    | refine ko_someR ?_
    | refine ko_ite ?_ ?_
    | refine ko_gd (fun _ => ?_)
    | refine ko_gz ?_
    | refine ko_gb ?_
    | refine ko_gq ?_
    | refine ko_gl ?_
    | refine ko_lts ?_ (fun _ _ => ?_)
    | refine ko_ltx (fun _ => ?_)
    | refine ko_bd ?_ (fun _ _ _ => ?_)
    | refine ko_bv ?_ (fun _ _ => ?_)
    | refine ko_sui (by assumption) ?_
    | refine ko_suj (by assumption) ?_
    | refine ko_suc (by assumption) ?_
    | refine ko_suw (by assumption) ?_
    | refine ko_none
    | (apply hrec; assumption)
  all_goals (intro a k q; have q2 := hP a k q; clear hP q)
  all_goals ((repeat' apply And.intro) <;> first | exact trivial | assumption)

theorem fr_X4_numberOf {P : Nat → Nat → Prop} {σ0 σ : mm_S} {a0 : Nat} {i1 : Int32} {i2 : Int32} (hP : ∀ a k, P a k → True) (h : ko_K P σ0 σ) : ko Prod.snd P σ0 (f_X4_numberOf a0 i1 i2 σ) := by
  unfold f_X4_numberOf
  repeat' with_reducible first
    | assumption
    | refine ko_someV ?_
    | refine ko_someR ?_
    | refine ko_ite ?_ ?_
    | refine ko_gd (fun _ => ?_)
    | refine ko_gz ?_
    | refine ko_gb ?_
    | refine ko_gq ?_
    | refine ko_gl ?_
    | refine ko_lts ?_ (fun _ _ => ?_)
    | refine ko_ltx (fun _ => ?_)
    | refine ko_bd ?_ (fun _ _ _ => ?_)
    | refine ko_bv ?_ (fun _ _ => ?_)
    | refine ko_sui (by assumption) ?_
    | refine ko_suj (by assumption) ?_
    | refine ko_suc (by assumption) ?_
    | refine ko_suw (by assumption) ?_
    | refine ko_none
    | (refine fr_X4_numberOf_14 ?_ (by assumption))
  all_goals (intro a k q; have q2 := hP a k q; clear hP q)
  all_goals ((repeat' apply And.intro) <;> first | exact trivial | assumption)

theorem fr_X4_signEnd_33 {P : Nat → Nat → Prop} {σ0 σ : mm_S} {a0 : Nat} {i1 : Int32} {s0 : Int32} (hP : ∀ a k, P a k → True) (h : ko_K P σ0 σ) : ko Prod.snd P σ0 (f_X4_signEnd_33 a0 i1 s0 σ) := by
  unfold f_X4_signEnd_33
  repeat' with_reducible first
    | assumption
    | refine ko_someV ?_
    | refine ko_someR ?_
    | refine ko_ite ?_ ?_
    | refine ko_gd (fun _ => ?_)
    | refine ko_gz ?_
    | refine ko_gb ?_
    | refine ko_gq ?_
    | refine ko_gl ?_
    | refine ko_lts ?_ (fun _ _ => ?_)
    | refine ko_ltx (fun _ => ?_)
    | refine ko_bd ?_ (fun _ _ _ => ?_)
    | refine ko_bv ?_ (fun _ _ => ?_)
    | refine ko_sui (by assumption) ?_
    | refine ko_suj (by assumption) ?_
    | refine ko_suc (by assumption) ?_
    | refine ko_suw (by assumption) ?_
    | refine ko_none
  all_goals (intro a k q; have q2 := hP a k q; clear hP q)
  all_goals ((repeat' apply And.intro) <;> first | exact trivial | assumption)

theorem fr_X4_signEnd {P : Nat → Nat → Prop} {σ0 σ : mm_S} {a0 : Nat} {i1 : Int32} (hP : ∀ a k, P a k → True) (h : ko_K P σ0 σ) : ko Prod.snd P σ0 (f_X4_signEnd a0 i1 σ) := by
  unfold f_X4_signEnd
  repeat' with_reducible first
    | assumption
    | refine ko_someV ?_
    | refine ko_someR ?_
    | refine ko_ite ?_ ?_
    | refine ko_gd (fun _ => ?_)
    | refine ko_gz ?_
    | refine ko_gb ?_
    | refine ko_gq ?_
    | refine ko_gl ?_
    | refine ko_lts ?_ (fun _ _ => ?_)
    | refine ko_ltx (fun _ => ?_)
    | refine ko_bd ?_ (fun _ _ _ => ?_)
    | refine ko_bv ?_ (fun _ _ => ?_)
    | refine ko_sui (by assumption) ?_
    | refine ko_suj (by assumption) ?_
    | refine ko_suc (by assumption) ?_
    | refine ko_suw (by assumption) ?_
    | refine ko_none
    | (refine fr_X4_signEnd_33 ?_ (by assumption))
  all_goals (intro a k q; have q2 := hP a k q; clear hP q)
  all_goals ((repeat' apply And.intro) <;> first | exact trivial | assumption)

theorem fr_X4_signOf {P : Nat → Nat → Prop} {σ0 σ : mm_S} {i0 : Int32} {i1 : Int32} (hP : ∀ a k, P a k → True) (h : ko_K P σ0 σ) : ko Prod.snd P σ0 (f_X4_signOf i0 i1 σ) := by
  unfold f_X4_signOf
  repeat' with_reducible first
    | assumption
    | refine ko_someV ?_
    | refine ko_someR ?_
    | refine ko_ite ?_ ?_
    | refine ko_gd (fun _ => ?_)
    | refine ko_gz ?_
    | refine ko_gb ?_
    | refine ko_gq ?_
    | refine ko_gl ?_
    | refine ko_lts ?_ (fun _ _ => ?_)
    | refine ko_ltx (fun _ => ?_)
    | refine ko_bd ?_ (fun _ _ _ => ?_)
    | refine ko_bv ?_ (fun _ _ => ?_)
    | refine ko_sui (by assumption) ?_
    | refine ko_suj (by assumption) ?_
    | refine ko_suc (by assumption) ?_
    | refine ko_suw (by assumption) ?_
    | refine ko_none
  all_goals (intro a k q; have q2 := hP a k q; clear hP q)
  all_goals ((repeat' apply And.intro) <;> first | exact trivial | assumption)

theorem fr_X4_cut_138 {P : Nat → Nat → Prop} {σ0 σ : mm_S} {a0 : Nat} (hP : ∀ a k, P a k → a ≠ 4 ∧ a ≠ 5 ∧ a ≠ 6 ∧ ¬ (a = a0 ∧ k = 4)) (h : ko_K P σ0 σ) : ko id P σ0 (f_X4_cut_138 a0 σ) := by
  unfold f_X4_cut_138
  repeat' with_reducible first
    | assumption
    | refine ko_someV ?_
    | refine ko_someR ?_
    | refine ko_ite ?_ ?_
    | refine ko_gd (fun _ => ?_)
    | refine ko_gz ?_
    | refine ko_gb ?_
    | refine ko_gq ?_
    | refine ko_gl ?_
    | refine ko_lts ?_ (fun _ _ => ?_)
    | refine ko_ltx (fun _ => ?_)
    | refine ko_bd ?_ (fun _ _ _ => ?_)
    | refine ko_bv ?_ (fun _ _ => ?_)
    | refine ko_sui (by assumption) ?_
    | refine ko_suj (by assumption) ?_
    | refine ko_suc (by assumption) ?_
    | refine ko_suw (by assumption) ?_
    | refine ko_none
    | (refine fr_X4_addPiece ?_ (by assumption))
  all_goals (intro a k q; have q2 := hP a k q; clear hP q; obtain ⟨q0_, q1_, q2_, q3_⟩ := q2)
  all_goals ((repeat' apply And.intro) <;> first | exact trivial | assumption | exact fun e => absurd e.1 (by assumption))

theorem fr_X4_cut_9 {P : Nat → Nat → Prop} {σ0 σ : mm_S} {a0 : Nat} {i1 : Int32} {i2 : Int32} (hP : ∀ a k, P a k → a ≠ 4 ∧ a ≠ 5 ∧ a ≠ 6 ∧ ¬ (a = a0 ∧ k = 4)) (h : ko_K P σ0 σ) : ko id P σ0 (f_X4_cut_9 a0 i1 i2 σ) := by
  unfold f_X4_cut_9
  refine ko_lp (fun rec hrec v τ hτ => ?_) lpN _ _ h
  repeat' with_reducible first
    | assumption
    | refine ko_someV ?_
    | refine ko_someR ?_
    | refine ko_ite ?_ ?_
    | refine ko_gd (fun _ => ?_)
    | refine ko_gz ?_
    | refine ko_gb ?_
    | refine ko_gq ?_
    | refine ko_gl ?_
    | refine ko_lts ?_ (fun _ _ => ?_)
    | refine ko_ltx (fun _ => ?_)
    | refine ko_bd ?_ (fun _ _ _ => ?_)
    | refine ko_bv ?_ (fun _ _ => ?_)
    | refine ko_sui (by assumption) ?_
    | refine ko_suj (by assumption) ?_
    | refine ko_suc (by assumption) ?_
    | refine ko_suw (by assumption) ?_
    | refine ko_none
    | (apply hrec; assumption)
    | (refine fr_X4_cut_138 ?_ (by assumption))
    | (refine fr_X4_isLetter ?_ (by assumption))
    | (refine fr_X4_isDigit ?_ (by assumption))
    | (refine fr_X4_signEnd ?_ (by assumption))
    | (refine fr_X4_signOf ?_ (by assumption))
    | (refine fr_X4_addPiece ?_ (by assumption))
    | (refine fr_X4_numberEnd ?_ (by assumption))
    | (refine fr_X4_numberOf ?_ (by assumption))
    | (refine fr_X4_wordEnd ?_ (by assumption))
    | (refine fr_X4_wordOf ?_ (by assumption))
  all_goals (intro a k q; have q2 := hP a k q; clear hP q; obtain ⟨q0_, q1_, q2_, q3_⟩ := q2)
  all_goals ((repeat' apply And.intro) <;> first | exact trivial | assumption | exact fun e => absurd e.1 (by assumption))

theorem fr_X4_cut {P : Nat → Nat → Prop} {σ0 σ : mm_S} {a0 : Nat} (hP : ∀ a k, P a k → ¬ (a = a0 ∧ k = 4) ∧ a ≠ 4 ∧ a ≠ 5 ∧ a ≠ 6) (h : ko_K P σ0 σ) : ko id P σ0 (f_X4_cut a0 σ) := by
  unfold f_X4_cut
  repeat' with_reducible first
    | assumption
    | refine ko_someV ?_
    | refine ko_someR ?_
    | refine ko_ite ?_ ?_
    | refine ko_gd (fun _ => ?_)
    | refine ko_gz ?_
    | refine ko_gb ?_
    | refine ko_gq ?_
    | refine ko_gl ?_
    | refine ko_lts ?_ (fun _ _ => ?_)
    | refine ko_ltx (fun _ => ?_)
    | refine ko_bd ?_ (fun _ _ _ => ?_)
    | refine ko_bv ?_ (fun _ _ => ?_)
    | refine ko_sui (by assumption) ?_
    | refine ko_suj (by assumption) ?_
    | refine ko_suc (by assumption) ?_
    | refine ko_suw (by assumption) ?_
    | refine ko_none
    | (refine fr_X4_cut_9 ?_ (by assumption))
  all_goals (intro a k q; have q2 := hP a k q; clear hP q; obtain ⟨q0_, q1_, q2_, q3_⟩ := q2)
  all_goals ((repeat' apply And.intro) <;> first | exact trivial | assumption | exact fun e => absurd e.1 (by assumption))

theorem fr_X4_begin {P : Nat → Nat → Prop} {σ0 σ : mm_S} {a0 : Nat} (hP : ∀ a k, P a k → ¬ (a = a0 ∧ k = 9) ∧ ¬ (a = a0 ∧ k = 10) ∧ ¬ (a = a0 ∧ k = 5) ∧ ¬ (a = a0 ∧ k = 4) ∧ a ≠ 4 ∧ a ≠ 5 ∧ a ≠ 6 ∧ ¬ (a = a0 ∧ k = 6) ∧ ¬ (a = a0 ∧ k = 7) ∧ ¬ (a = a0 ∧ k = 8)) (h : ko_K P σ0 σ) : ko id P σ0 (f_X4_begin a0 σ) := by
  unfold f_X4_begin
  repeat' with_reducible first
    | assumption
    | refine ko_someV ?_
    | refine ko_someR ?_
    | refine ko_ite ?_ ?_
    | refine ko_gd (fun _ => ?_)
    | refine ko_gz ?_
    | refine ko_gb ?_
    | refine ko_gq ?_
    | refine ko_gl ?_
    | refine ko_lts ?_ (fun _ _ => ?_)
    | refine ko_ltx (fun _ => ?_)
    | refine ko_bd ?_ (fun _ _ _ => ?_)
    | refine ko_bv ?_ (fun _ _ => ?_)
    | refine ko_sui (by assumption) ?_
    | refine ko_suj (by assumption) ?_
    | refine ko_suc (by assumption) ?_
    | refine ko_suw (by assumption) ?_
    | refine ko_none
    | (refine fr_X4_cut ?_ (by assumption))
    | (refine fr_X4_step ?_ (by assumption))
  all_goals (intro a k q; have q2 := hP a k q; clear hP q; obtain ⟨q0_, q1_, q2_, q3_, q4_, q5_, q6_, q7_, q8_, q9_⟩ := q2)
  all_goals ((repeat' apply And.intro) <;> first | exact trivial | assumption | exact fun e => absurd e.1 (by assumption))

theorem fr_X4_readNumber {P : Nat → Nat → Prop} {σ0 σ : mm_S} {a0 : Nat} {i1 : Int32} {i2 : Int32} {i3 : Int32} (hP : ∀ a k, P a k → ¬ (a = a0 ∧ k = 9) ∧ ¬ (a = a0 ∧ k = 5) ∧ ¬ (a = a0 ∧ k = 6) ∧ ¬ (a = a0 ∧ k = 7) ∧ ¬ (a = a0 ∧ k = 8)) (h : ko_K P σ0 σ) : ko Prod.snd P σ0 (f_X4_readNumber a0 i1 i2 i3 σ) := by
  unfold f_X4_readNumber
  repeat' with_reducible first
    | assumption
    | refine ko_someV ?_
    | refine ko_someR ?_
    | refine ko_ite ?_ ?_
    | refine ko_gd (fun _ => ?_)
    | refine ko_gz ?_
    | refine ko_gb ?_
    | refine ko_gq ?_
    | refine ko_gl ?_
    | refine ko_lts ?_ (fun _ _ => ?_)
    | refine ko_ltx (fun _ => ?_)
    | refine ko_bd ?_ (fun _ _ _ => ?_)
    | refine ko_bv ?_ (fun _ _ => ?_)
    | refine ko_sui (by assumption) ?_
    | refine ko_suj (by assumption) ?_
    | refine ko_suc (by assumption) ?_
    | refine ko_suw (by assumption) ?_
    | refine ko_none
    | (refine fr_X4_fail ?_ (by assumption))
    | (refine fr_X4_step ?_ (by assumption))
  all_goals (intro a k q; have q2 := hP a k q; clear hP q; obtain ⟨q0_, q1_, q2_, q3_, q4_⟩ := q2)
  all_goals ((repeat' apply And.intro) <;> first | exact trivial | assumption | exact fun e => absurd e.1 (by assumption))

theorem fr_X4_readHouseClause_94 {P : Nat → Nat → Prop} {σ0 σ : mm_S} {a0 : Nat} {a1 : Nat} {i3 : Int32} {i4 : Int32} {i5 : Int32} (hP : ∀ a k, P a k → ¬ (a = a1 ∧ k = 4) ∧ ¬ (a = a1 ∧ k = 1) ∧ ¬ (a = a1 ∧ k = 2) ∧ ¬ (a = a0 ∧ k = 5) ∧ ¬ (a = a0 ∧ k = 6) ∧ ¬ (a = a0 ∧ k = 7) ∧ ¬ (a = a0 ∧ k = 8) ∧ ¬ (a = a0 ∧ k = 9) ∧ a ≠ a1 + 3 ∧ a ≠ a1 + 1 ∧ a ≠ a1 + 2 ∧ ¬ (a = a1 ∧ k = 3)) (h : ko_K P σ0 σ) : ko id P σ0 (f_X4_readHouseClause_94 a0 a1 i3 i4 i5 σ) := by
  unfold f_X4_readHouseClause_94
  repeat' with_reducible first
    | assumption
    | refine ko_someV ?_
    | refine ko_someR ?_
    | refine ko_ite ?_ ?_
    | refine ko_gd (fun _ => ?_)
    | refine ko_gz ?_
    | refine ko_gb ?_
    | refine ko_gq ?_
    | refine ko_gl ?_
    | refine ko_lts ?_ (fun _ _ => ?_)
    | refine ko_ltx (fun _ => ?_)
    | refine ko_bd ?_ (fun _ _ _ => ?_)
    | refine ko_bv ?_ (fun _ _ => ?_)
    | refine ko_sui (by assumption) ?_
    | refine ko_suj (by assumption) ?_
    | refine ko_suc (by assumption) ?_
    | refine ko_suw (by assumption) ?_
    | refine ko_none
    | (refine fr_X4_step ?_ (by assumption))
    | (refine fr_X4_readNumber ?_ (by assumption))
    | (refine fr_X1_setDearness ?_ (by assumption))
    | (refine fr_X1_addLodger ?_ (by assumption))
  all_goals (intro a k q; have q2 := hP a k q; clear hP q; obtain ⟨q0_, q1_, q2_, q3_, q4_, q5_, q6_, q7_, q8_, q9_, q10_, q11_⟩ := q2)
  all_goals ((repeat' apply And.intro) <;> first | exact trivial | assumption | exact fun e => absurd e.1 (by assumption))

theorem fr_X4_readHouseClause_60 {P : Nat → Nat → Prop} {σ0 σ : mm_S} {a0 : Nat} {a1 : Nat} {i2 : Int32} {i3 : Int32} {i4 : Int32} {i5 : Int32} {s0 : Int32} (hP : ∀ a k, P a k → ¬ (a = a0 ∧ k = 9) ∧ ¬ (a = a1 ∧ k = 4) ∧ ¬ (a = a1 ∧ k = 1) ∧ ¬ (a = a1 ∧ k = 2) ∧ ¬ (a = a0 ∧ k = 5) ∧ ¬ (a = a0 ∧ k = 6) ∧ ¬ (a = a0 ∧ k = 7) ∧ ¬ (a = a0 ∧ k = 8) ∧ a ≠ a1 + 3 ∧ a ≠ a1 + 1 ∧ a ≠ a1 + 2 ∧ ¬ (a = a1 ∧ k = 3)) (h : ko_K P σ0 σ) : ko id P σ0 (f_X4_readHouseClause_60 a0 a1 i2 i3 i4 i5 s0 σ) := by
  unfold f_X4_readHouseClause_60
  repeat' with_reducible first
    | assumption
    | refine ko_someV ?_
    | refine ko_someR ?_
    | refine ko_ite ?_ ?_
    | refine ko_gd (fun _ => ?_)
    | refine ko_gz ?_
    | refine ko_gb ?_
    | refine ko_gq ?_
    | refine ko_gl ?_
    | refine ko_lts ?_ (fun _ _ => ?_)
    | refine ko_ltx (fun _ => ?_)
    | refine ko_bd ?_ (fun _ _ _ => ?_)
    | refine ko_bv ?_ (fun _ _ => ?_)
    | refine ko_sui (by assumption) ?_
    | refine ko_suj (by assumption) ?_
    | refine ko_suc (by assumption) ?_
    | refine ko_suw (by assumption) ?_
    | refine ko_none
    | (refine fr_X4_fail ?_ (by assumption))
    | (refine fr_X4_readHouseClause_94 ?_ (by assumption))
  all_goals (intro a k q; have q2 := hP a k q; clear hP q; obtain ⟨q0_, q1_, q2_, q3_, q4_, q5_, q6_, q7_, q8_, q9_, q10_, q11_⟩ := q2)
  all_goals ((repeat' apply And.intro) <;> first | exact trivial | assumption | exact fun e => absurd e.1 (by assumption))

theorem fr_X4_readHouseClause_51 {P : Nat → Nat → Prop} {σ0 σ : mm_S} {a0 : Nat} {a1 : Nat} {i2 : Int32} {i3 : Int32} {i4 : Int32} {i5 : Int32} (hP : ∀ a k, P a k → ¬ (a = a0 ∧ k = 9) ∧ ¬ (a = a1 ∧ k = 4) ∧ ¬ (a = a1 ∧ k = 1) ∧ ¬ (a = a1 ∧ k = 2) ∧ ¬ (a = a0 ∧ k = 5) ∧ ¬ (a = a0 ∧ k = 6) ∧ ¬ (a = a0 ∧ k = 7) ∧ ¬ (a = a0 ∧ k = 8) ∧ a ≠ a1 + 3 ∧ a ≠ a1 + 1 ∧ a ≠ a1 + 2 ∧ ¬ (a = a1 ∧ k = 3)) (h : ko_K P σ0 σ) : ko id P σ0 (f_X4_readHouseClause_51 a0 a1 i2 i3 i4 i5 σ) := by
  unfold f_X4_readHouseClause_51
  repeat' with_reducible first
    | assumption
    | refine ko_someV ?_
    | refine ko_someR ?_
    | refine ko_ite ?_ ?_
    | refine ko_gd (fun _ => ?_)
    | refine ko_gz ?_
    | refine ko_gb ?_
    | refine ko_gq ?_
    | refine ko_gl ?_
    | refine ko_lts ?_ (fun _ _ => ?_)
    | refine ko_ltx (fun _ => ?_)
    | refine ko_bd ?_ (fun _ _ _ => ?_)
    | refine ko_bv ?_ (fun _ _ => ?_)
    | refine ko_sui (by assumption) ?_
    | refine ko_suj (by assumption) ?_
    | refine ko_suc (by assumption) ?_
    | refine ko_suw (by assumption) ?_
    | refine ko_none
    | (refine fr_X4_readHouseClause_60 ?_ (by assumption))
  all_goals (intro a k q; have q2 := hP a k q; clear hP q; obtain ⟨q0_, q1_, q2_, q3_, q4_, q5_, q6_, q7_, q8_, q9_, q10_, q11_⟩ := q2)
  all_goals ((repeat' apply And.intro) <;> first | exact trivial | assumption | exact fun e => absurd e.1 (by assumption))

theorem fr_X4_readHouseClause {P : Nat → Nat → Prop} {σ0 σ : mm_S} {a0 : Nat} {a1 : Nat} {i2 : Int32} (hP : ∀ a k, P a k → ¬ (a = a0 ∧ k = 9) ∧ ¬ (a = a1 ∧ k = 4) ∧ ¬ (a = a1 ∧ k = 1) ∧ ¬ (a = a1 ∧ k = 2) ∧ ¬ (a = a0 ∧ k = 5) ∧ ¬ (a = a0 ∧ k = 6) ∧ ¬ (a = a0 ∧ k = 7) ∧ ¬ (a = a0 ∧ k = 8) ∧ a ≠ a1 + 3 ∧ a ≠ a1 + 1 ∧ a ≠ a1 + 2 ∧ ¬ (a = a1 ∧ k = 3)) (h : ko_K P σ0 σ) : ko id P σ0 (f_X4_readHouseClause a0 a1 i2 σ) := by
  unfold f_X4_readHouseClause
  repeat' with_reducible first
    | assumption
    | refine ko_someV ?_
    | refine ko_someR ?_
    | refine ko_ite ?_ ?_
    | refine ko_gd (fun _ => ?_)
    | refine ko_gz ?_
    | refine ko_gb ?_
    | refine ko_gq ?_
    | refine ko_gl ?_
    | refine ko_lts ?_ (fun _ _ => ?_)
    | refine ko_ltx (fun _ => ?_)
    | refine ko_bd ?_ (fun _ _ _ => ?_)
    | refine ko_bv ?_ (fun _ _ => ?_)
    | refine ko_sui (by assumption) ?_
    | refine ko_suj (by assumption) ?_
    | refine ko_suc (by assumption) ?_
    | refine ko_suw (by assumption) ?_
    | refine ko_none
    | (refine fr_X4_isWord ?_ (by assumption))
    | (refine fr_X4_fail ?_ (by assumption))
    | (refine fr_X4_readHouseClause_51 ?_ (by assumption))
  all_goals (intro a k q; have q2 := hP a k q; clear hP q; obtain ⟨q0_, q1_, q2_, q3_, q4_, q5_, q6_, q7_, q8_, q9_, q10_, q11_⟩ := q2)
  all_goals ((repeat' apply And.intro) <;> first | exact trivial | assumption | exact fun e => absurd e.1 (by assumption))

theorem fr_X4_readHouse_49 {P : Nat → Nat → Prop} {σ0 σ : mm_S} {k10 : (Int32) → mm_S → Option (mm_S)} {a0 : Nat} {a1 : Nat} {i2 : Int32} (hP : ∀ a k, P a k → ¬ (a = a0 ∧ k = 9) ∧ ¬ (a = a0 ∧ k = 5) ∧ ¬ (a = a0 ∧ k = 6) ∧ ¬ (a = a0 ∧ k = 7) ∧ ¬ (a = a0 ∧ k = 8)) (hk0 : ∀ v τ, ko_K P σ0 τ → ko id P σ0 (k10 v τ)) (h : ko_K P σ0 σ) : ko id P σ0 (f_X4_readHouse_49 k10 a0 a1 i2 σ) := by
  unfold f_X4_readHouse_49
  repeat' with_reducible first
    | assumption
    | refine ko_someV ?_
    | refine ko_someR ?_
    | refine ko_ite ?_ ?_
    | refine ko_gd (fun _ => ?_)
    | refine ko_gz ?_
    | refine ko_gb ?_
    | refine ko_gq ?_
    | refine ko_gl ?_
    | refine ko_lts ?_ (fun _ _ => ?_)
    | refine ko_ltx (fun _ => ?_)
    | refine ko_bd ?_ (fun _ _ _ => ?_)
    | refine ko_bv ?_ (fun _ _ => ?_)
    | refine ko_sui (by assumption) ?_
    | refine ko_suj (by assumption) ?_
    | refine ko_suc (by assumption) ?_
    | refine ko_suw (by assumption) ?_
    | refine ko_none
    | (apply hk0; assumption)
    | (refine fr_X4_isSign ?_ (by assumption))
    | (refine fr_X4_fail ?_ (by assumption))
    | (refine fr_X4_step ?_ (by assumption))
  all_goals (intro a k q; have q2 := hP a k q; clear hP q; obtain ⟨q0_, q1_, q2_, q3_, q4_⟩ := q2)
  all_goals ((repeat' apply And.intro) <;> first | exact trivial | assumption | exact fun e => absurd e.1 (by assumption))

theorem fr_X4_readHouse_10 {P : Nat → Nat → Prop} {σ0 σ : mm_S} {a0 : Nat} {a1 : Nat} {i2 : Int32} (hP : ∀ a k, P a k → ¬ (a = a1 ∧ k = 0) ∧ ¬ (a = a0 ∧ k = 9) ∧ ¬ (a = a1 ∧ k = 4) ∧ ¬ (a = a1 ∧ k = 1) ∧ ¬ (a = a1 ∧ k = 2) ∧ ¬ (a = a0 ∧ k = 5) ∧ ¬ (a = a0 ∧ k = 6) ∧ ¬ (a = a0 ∧ k = 7) ∧ ¬ (a = a0 ∧ k = 8) ∧ a ≠ a1 + 3 ∧ a ≠ a1 + 1 ∧ a ≠ a1 + 2 ∧ ¬ (a = a1 ∧ k = 3)) (h : ko_K P σ0 σ) : ko id P σ0 (f_X4_readHouse_10 a0 a1 i2 σ) := by
  unfold f_X4_readHouse_10
  refine ko_lp (fun rec hrec v τ hτ => ?_) lpN _ _ h
  repeat' with_reducible first
    | assumption
    | refine ko_someV ?_
    | refine ko_someR ?_
    | refine ko_ite ?_ ?_
    | refine ko_gd (fun _ => ?_)
    | refine ko_gz ?_
    | refine ko_gb ?_
    | refine ko_gq ?_
    | refine ko_gl ?_
    | refine ko_lts ?_ (fun _ _ => ?_)
    | refine ko_ltx (fun _ => ?_)
    | refine ko_bd ?_ (fun _ _ _ => ?_)
    | refine ko_bv ?_ (fun _ _ => ?_)
    | refine ko_sui (by assumption) ?_
    | refine ko_suj (by assumption) ?_
    | refine ko_suc (by assumption) ?_
    | refine ko_suw (by assumption) ?_
    | refine ko_none
    | (apply hrec; assumption)
    | (refine fr_X4_readHouseClause ?_ (by assumption))
    | (refine fr_X4_readHouse_49 ?_ (by first | exact hrec) (by assumption))
  all_goals (intro a k q; have q2 := hP a k q; clear hP q; obtain ⟨q0_, q1_, q2_, q3_, q4_, q5_, q6_, q7_, q8_, q9_, q10_, q11_, q12_⟩ := q2)
  all_goals ((repeat' apply And.intro) <;> first | exact trivial | assumption | exact fun e => absurd e.1 (by assumption))

theorem fr_X4_readHouse {P : Nat → Nat → Prop} {σ0 σ : mm_S} {a0 : Nat} {a1 : Nat} (hP : ∀ a k, P a k → ¬ (a = a1 ∧ k = 0) ∧ ¬ (a = a1 ∧ k = 1) ∧ ¬ (a = a1 ∧ k = 2) ∧ ¬ (a = a1 ∧ k = 3) ∧ ¬ (a = a1 ∧ k = 4) ∧ a ≠ a1 + 1 ∧ a ≠ a1 + 2 ∧ a ≠ a1 + 3 ∧ ¬ (a = a0 ∧ k = 9) ∧ ¬ (a = a0 ∧ k = 10) ∧ ¬ (a = a0 ∧ k = 5) ∧ ¬ (a = a0 ∧ k = 4) ∧ a ≠ 4 ∧ a ≠ 5 ∧ a ≠ 6 ∧ ¬ (a = a0 ∧ k = 6) ∧ ¬ (a = a0 ∧ k = 7) ∧ ¬ (a = a0 ∧ k = 8)) (h : ko_K P σ0 σ) : ko id P σ0 (f_X4_readHouse a0 a1 σ) := by
  unfold f_X4_readHouse
  repeat' with_reducible first
    | assumption
    | refine ko_someV ?_
    | refine ko_someR ?_
    | refine ko_ite ?_ ?_
    | refine ko_gd (fun _ => ?_)
    | refine ko_gz ?_
    | refine ko_gb ?_
    | refine ko_gq ?_
    | refine ko_gl ?_
    | refine ko_lts ?_ (fun _ _ => ?_)
    | refine ko_ltx (fun _ => ?_)
    | refine ko_bd ?_ (fun _ _ _ => ?_)
    | refine ko_bv ?_ (fun _ _ => ?_)
    | refine ko_sui (by assumption) ?_
    | refine ko_suj (by assumption) ?_
    | refine ko_suc (by assumption) ?_
    | refine ko_suw (by assumption) ?_
    | refine ko_none
    | (refine fr_X1_empty ?_ (by assumption))
    | (refine fr_X4_begin ?_ (by assumption))
    | (refine fr_X4_readHouse_10 ?_ (by assumption))
  all_goals (intro a k q; have q2 := hP a k q; clear hP q; obtain ⟨q0_, q1_, q2_, q3_, q4_, q5_, q6_, q7_, q8_, q9_, q10_, q11_, q12_, q13_, q14_, q15_, q16_, q17_⟩ := q2)
  all_goals ((repeat' apply And.intro) <;> first | exact trivial | assumption | exact fun e => absurd e.1 (by assumption))

theorem fr_X4_readRule_95 {P : Nat → Nat → Prop} {σ0 σ : mm_S} {k11 : (Int32) → mm_S → Option (mm_S)} {a0 : Nat} {a1 : Nat} {i2 : Int32} (hP : ∀ a k, P a k → ¬ (a = a0 ∧ k = 9) ∧ ¬ (a = a0 ∧ k = 5) ∧ ¬ (a = a0 ∧ k = 6) ∧ ¬ (a = a0 ∧ k = 7) ∧ ¬ (a = a0 ∧ k = 8)) (hk0 : ∀ v τ, ko_K P σ0 τ → ko id P σ0 (k11 v τ)) (h : ko_K P σ0 σ) : ko id P σ0 (f_X4_readRule_95 k11 a0 a1 i2 σ) := by
  unfold f_X4_readRule_95
  repeat' with_reducible first
    | assumption
    | refine ko_someV ?_
    | refine ko_someR ?_
    | refine ko_ite ?_ ?_
    | refine ko_gd (fun _ => ?_)
    | refine ko_gz ?_
    | refine ko_gb ?_
    | refine ko_gq ?_
    | refine ko_gl ?_
    | refine ko_lts ?_ (fun _ _ => ?_)
    | refine ko_ltx (fun _ => ?_)
    | refine ko_bd ?_ (fun _ _ _ => ?_)
    | refine ko_bv ?_ (fun _ _ => ?_)
    | refine ko_sui (by assumption) ?_
    | refine ko_suj (by assumption) ?_
    | refine ko_suc (by assumption) ?_
    | refine ko_suw (by assumption) ?_
    | refine ko_none
    | (apply hk0; assumption)
    | (refine fr_X4_isSign ?_ (by assumption))
    | (refine fr_X4_fail ?_ (by assumption))
    | (refine fr_X4_step ?_ (by assumption))
  all_goals (intro a k q; have q2 := hP a k q; clear hP q; obtain ⟨q0_, q1_, q2_, q3_, q4_⟩ := q2)
  all_goals ((repeat' apply And.intro) <;> first | exact trivial | assumption | exact fun e => absurd e.1 (by assumption))

theorem fr_X4_readRule_52 {P : Nat → Nat → Prop} {σ0 σ : mm_S} {k11 : (Int32) → mm_S → Option (mm_S)} {a0 : Nat} {a1 : Nat} {i2 : Int32} (hP : ∀ a k, P a k → a ≠ a1 + 1 ∧ ¬ (a = a1 ∧ k = 1) ∧ a ≠ a0) (hk0 : ∀ v τ, ko_K P σ0 τ → ko id P σ0 (k11 v τ)) (h : ko_K P σ0 σ) : ko id P σ0 (f_X4_readRule_52 k11 a0 a1 i2 σ) := by
  unfold f_X4_readRule_52
  repeat' with_reducible first
    | assumption
    | refine ko_someV ?_
    | refine ko_someR ?_
    | refine ko_ite ?_ ?_
    | refine ko_gd (fun _ => ?_)
    | refine ko_gz ?_
    | refine ko_gb ?_
    | refine ko_gq ?_
    | refine ko_gl ?_
    | refine ko_lts ?_ (fun _ _ => ?_)
    | refine ko_ltx (fun _ => ?_)
    | refine ko_bd ?_ (fun _ _ _ => ?_)
    | refine ko_bv ?_ (fun _ _ => ?_)
    | refine ko_sui (by assumption) ?_
    | refine ko_suj (by assumption) ?_
    | refine ko_suc (by assumption) ?_
    | refine ko_suw (by assumption) ?_
    | refine ko_none
    | (apply hk0; assumption)
    | (refine fr_X4_step ?_ (by assumption))
    | (refine fr_X4_readSum ?_ (by assumption))
    | (refine fr_X4_isWord ?_ (by assumption))
    | (refine fr_X5_add ?_ (by assumption))
    | (refine fr_X4_readRule_95 ?_ (by first | exact hk0) (by assumption))
    | (refine fr_X4_readTest ?_ (by assumption))
  all_goals (intro a k q; have q2 := hP a k q; clear hP q; obtain ⟨q0_, q1_, q2_⟩ := q2)
  all_goals ((repeat' apply And.intro) <;> first | exact trivial | assumption | exact fun e => absurd e.1 (by assumption))

theorem fr_X4_readRule_11 {P : Nat → Nat → Prop} {σ0 σ : mm_S} {a0 : Nat} {a1 : Nat} {i2 : Int32} (hP : ∀ a k, P a k → a ≠ a1 + 1 ∧ ¬ (a = a1 ∧ k = 1) ∧ a ≠ a0) (h : ko_K P σ0 σ) : ko id P σ0 (f_X4_readRule_11 a0 a1 i2 σ) := by
  unfold f_X4_readRule_11
  refine ko_lp (fun rec hrec v τ hτ => ?_) lpN _ _ h
  repeat' with_reducible first
    | assumption
    | refine ko_someV ?_
    | refine ko_someR ?_
    | refine ko_ite ?_ ?_
    | refine ko_gd (fun _ => ?_)
    | refine ko_gz ?_
    | refine ko_gb ?_
    | refine ko_gq ?_
    | refine ko_gl ?_
    | refine ko_lts ?_ (fun _ _ => ?_)
    | refine ko_ltx (fun _ => ?_)
    | refine ko_bd ?_ (fun _ _ _ => ?_)
    | refine ko_bv ?_ (fun _ _ => ?_)
    | refine ko_sui (by assumption) ?_
    | refine ko_suj (by assumption) ?_
    | refine ko_suc (by assumption) ?_
    | refine ko_suw (by assumption) ?_
    | refine ko_none
    | (apply hrec; assumption)
    | (refine fr_X4_isWord ?_ (by assumption))
    | (refine fr_X4_fail ?_ (by assumption))
    | (refine fr_X4_readRule_52 ?_ (by first | exact hrec) (by assumption))
  all_goals (intro a k q; have q2 := hP a k q; clear hP q; obtain ⟨q0_, q1_, q2_⟩ := q2)
  all_goals ((repeat' apply And.intro) <;> first | exact trivial | assumption | exact fun e => absurd e.1 (by assumption))

theorem fr_X4_readRule {P : Nat → Nat → Prop} {σ0 σ : mm_S} {a0 : Nat} {a1 : Nat} (hP : ∀ a k, P a k → ¬ (a = a1 ∧ k = 1) ∧ a ≠ 4 ∧ a ≠ 5 ∧ a ≠ 6 ∧ a ≠ a1 + 1 ∧ a ≠ a0) (h : ko_K P σ0 σ) : ko id P σ0 (f_X4_readRule a0 a1 σ) := by
  unfold f_X4_readRule
  repeat' with_reducible first
    | assumption
    | refine ko_someV ?_
    | refine ko_someR ?_
    | refine ko_ite ?_ ?_
    | refine ko_gd (fun _ => ?_)
    | refine ko_gz ?_
    | refine ko_gb ?_
    | refine ko_gq ?_
    | refine ko_gl ?_
    | refine ko_lts ?_ (fun _ _ => ?_)
    | refine ko_ltx (fun _ => ?_)
    | refine ko_bd ?_ (fun _ _ _ => ?_)
    | refine ko_bv ?_ (fun _ _ => ?_)
    | refine ko_sui (by assumption) ?_
    | refine ko_suj (by assumption) ?_
    | refine ko_suc (by assumption) ?_
    | refine ko_suw (by assumption) ?_
    | refine ko_none
    | (refine fr_X4_begin ?_ (by assumption))
    | (refine fr_X4_readRule_11 ?_ (by assumption))
  all_goals (intro a k q; have q2 := hP a k q; clear hP q; obtain ⟨q0_, q1_, q2_, q3_, q4_, q5_⟩ := q2)
  all_goals ((repeat' apply And.intro) <;> first | exact trivial | assumption | exact fun e => absurd e.1 (by assumption))

theorem fr_X9_feed {P : Nat → Nat → Prop} {σ0 σ : mm_S} {a0 : Nat} {i1 : Int32} {i2 : Int32} {i3 : Int32} {i4 : Int32} {i5 : Int32} (hP : ∀ a k, P a k → a ≠ 2 ∧ ¬ (a = 1 ∧ k = 1)) (h : ko_K P σ0 σ) : ko Prod.snd P σ0 (f_X9_feed a0 i1 i2 i3 i4 i5 σ) := by
  unfold f_X9_feed
  repeat' with_reducible first
    | assumption
    | refine ko_someV ?_
    | refine ko_someR ?_
    | refine ko_ite ?_ ?_
    | refine ko_gd (fun _ => ?_)
    | refine ko_gz ?_
    | refine ko_gb ?_
    | refine ko_gq ?_
    | refine ko_gl ?_
    | refine ko_lts ?_ (fun _ _ => ?_)
    | refine ko_ltx (fun _ => ?_)
    | refine ko_bd ?_ (fun _ _ _ => ?_)
    | refine ko_bv ?_ (fun _ _ => ?_)
    | refine ko_sui (by assumption) ?_
    | refine ko_suj (by assumption) ?_
    | refine ko_suc (by assumption) ?_
    | refine ko_suw (by assumption) ?_
    | refine ko_none
    | (refine fr_X6_addNumber ?_ (by assumption))
  all_goals (intro a k q; have q2 := hP a k q; clear hP q; obtain ⟨q0_, q1_⟩ := q2)
  all_goals ((repeat' apply And.intro) <;> first | exact trivial | assumption | exact fun e => absurd e.1 (by assumption))

theorem fr_X9_end {P : Nat → Nat → Prop} {σ0 σ : mm_S} {a0 : Nat} {i1 : Int32} (hP : ∀ a k, P a k → ¬ (a = 1 ∧ k = 1)) (h : ko_K P σ0 σ) : ko Prod.snd P σ0 (f_X9_end a0 i1 σ) := by
  unfold f_X9_end
  repeat' with_reducible first
    | assumption
    | refine ko_someV ?_
    | refine ko_someR ?_
    | refine ko_ite ?_ ?_
    | refine ko_gd (fun _ => ?_)
    | refine ko_gz ?_
    | refine ko_gb ?_
    | refine ko_gq ?_
    | refine ko_gl ?_
    | refine ko_lts ?_ (fun _ _ => ?_)
    | refine ko_ltx (fun _ => ?_)
    | refine ko_bd ?_ (fun _ _ _ => ?_)
    | refine ko_bv ?_ (fun _ _ => ?_)
    | refine ko_sui (by assumption) ?_
    | refine ko_suj (by assumption) ?_
    | refine ko_suc (by assumption) ?_
    | refine ko_suw (by assumption) ?_
    | refine ko_none
  all_goals (intro a k q; have q2 := hP a k q; clear hP q; have q0_ := q2; clear q2)
  all_goals ((repeat' apply And.intro) <;> first | exact trivial | assumption | exact fun e => absurd e.1 (by assumption))

theorem fr_X9_house {P : Nat → Nat → Prop} {σ0 σ : mm_S} {a0 : Nat} (hP : ∀ a k, P a k → ¬ (a = 1 ∧ k = 1) ∧ ¬ (a = 36 ∧ k = 0) ∧ ¬ (a = 7 ∧ k = 0) ∧ ¬ (a = 7 ∧ k = 1) ∧ ¬ (a = 7 ∧ k = 2) ∧ ¬ (a = 7 ∧ k = 3) ∧ ¬ (a = 7 ∧ k = 4) ∧ a ≠ 8 ∧ a ≠ 9 ∧ a ≠ 10 ∧ ¬ (a = 3 ∧ k = 9) ∧ ¬ (a = 3 ∧ k = 10) ∧ ¬ (a = 3 ∧ k = 5) ∧ ¬ (a = 3 ∧ k = 4) ∧ a ≠ 4 ∧ a ≠ 5 ∧ a ≠ 6 ∧ ¬ (a = 3 ∧ k = 6) ∧ ¬ (a = 3 ∧ k = 7) ∧ ¬ (a = 3 ∧ k = 8) ∧ ¬ (a = 27 ∧ k = 0) ∧ ¬ (a = 27 ∧ k = 1) ∧ ¬ (a = 27 ∧ k = 2) ∧ ¬ (a = 27 ∧ k = 3) ∧ ¬ (a = 27 ∧ k = 4) ∧ a ≠ 28 ∧ a ≠ 29 ∧ a ≠ 30 ∧ ¬ (a = 31 ∧ k = 0) ∧ ¬ (a = 31 ∧ k = 1) ∧ a ≠ 32 ∧ a ≠ 33 ∧ a ≠ 34 ∧ a ≠ 35 ∧ ¬ (a = 98 ∧ k = 2)) (h : ko_K P σ0 σ) : ko Prod.snd P σ0 (f_X9_house a0 σ) := by
  unfold f_X9_house
  repeat' with_reducible first
    | assumption
    | refine ko_someV ?_
    | refine ko_someR ?_
    | refine ko_ite ?_ ?_
    | refine ko_gd (fun _ => ?_)
    | refine ko_gz ?_
    | refine ko_gb ?_
    | refine ko_gq ?_
    | refine ko_gl ?_
    | refine ko_lts ?_ (fun _ _ => ?_)
    | refine ko_ltx (fun _ => ?_)
    | refine ko_bd ?_ (fun _ _ _ => ?_)
    | refine ko_bv ?_ (fun _ _ => ?_)
    | refine ko_sui (by assumption) ?_
    | refine ko_suj (by assumption) ?_
    | refine ko_suc (by assumption) ?_
    | refine ko_suw (by assumption) ?_
    | refine ko_none
    | (refine fr_X4_readHouse ?_ (by assumption))
    | (refine fr_X1_take ?_ (by assumption))
    | (refine fr_X2_begin ?_ (by assumption))
    | (refine fr_X0_forget ?_ (by assumption))
  all_goals (intro a k q; have q2 := hP a k q; clear hP q; obtain ⟨q0_, q1_, q2_, q3_, q4_, q5_, q6_, q7_, q8_, q9_, q10_, q11_, q12_, q13_, q14_, q15_, q16_, q17_, q18_, q19_, q20_, q21_, q22_, q23_, q24_, q25_, q26_, q27_, q28_, q29_, q30_, q31_, q32_, q33_, q34_⟩ := q2)
  all_goals ((repeat' apply And.intro) <;> first | exact trivial | assumption | exact fun e => absurd e.1 (by assumption))

theorem fr_X9_rule {P : Nat → Nat → Prop} {σ0 σ : mm_S} {a0 : Nat} (hP : ∀ a k, P a k → ¬ (a = 1 ∧ k = 1) ∧ ¬ (a = a0 ∧ k = 4) ∧ a ≠ 4 ∧ a ≠ 5 ∧ a ≠ 6 ∧ (a < 12 ∨ 26 ≤ a) ∧ a ≠ 3) (h : ko_K P σ0 σ) : ko Prod.snd P σ0 (f_X9_rule a0 σ) := by
  unfold f_X9_rule
  repeat' with_reducible first
    | assumption
    | refine ko_someV ?_
    | refine ko_someR ?_
    | refine ko_ite ?_ ?_
    | refine ko_gd (fun _ => ?_)
    | refine ko_gz ?_
    | refine ko_gb ?_
    | refine ko_gq ?_
    | refine ko_gl ?_
    | refine ko_lts ?_ (fun _ _ => ?_)
    | refine ko_ltx (fun _ => ?_)
    | refine ko_bd ?_ (fun _ _ _ => ?_)
    | refine ko_bv ?_ (fun _ _ => ?_)
    | refine ko_sui (by assumption) ?_
    | refine ko_suj (by assumption) ?_
    | refine ko_suc (by assumption) ?_
    | refine ko_suw (by assumption) ?_
    | refine ko_none
    | (refine fr_X4_readRule ?_ (by assumption))
  all_goals (intro a k q; have q2 := hP a k q; clear hP q; obtain ⟨q0_, q1_, q2_, q3_, q4_, q5_, q6_⟩ := q2)
  all_goals ((repeat' apply And.intro) <;> first | exact trivial | assumption | exact fun e => absurd e.1 (by assumption) | (clear q0_ q1_ q2_ q3_ q4_ q6_; omega))

theorem fr_X9_force {P : Nat → Nat → Prop} {σ0 σ : mm_S} {a0 : Nat} {i1 : Int32} (hP : ∀ a k, P a k → ¬ (a = 26 ∧ k = 3)) (h : ko_K P σ0 σ) : ko Prod.snd P σ0 (f_X9_force a0 i1 σ) := by
  unfold f_X9_force
  repeat' with_reducible first
    | assumption
    | refine ko_someV ?_
    | refine ko_someR ?_
    | refine ko_ite ?_ ?_
    | refine ko_gd (fun _ => ?_)
    | refine ko_gz ?_
    | refine ko_gb ?_
    | refine ko_gq ?_
    | refine ko_gl ?_
    | refine ko_lts ?_ (fun _ _ => ?_)
    | refine ko_ltx (fun _ => ?_)
    | refine ko_bd ?_ (fun _ _ _ => ?_)
    | refine ko_bv ?_ (fun _ _ => ?_)
    | refine ko_sui (by assumption) ?_
    | refine ko_suj (by assumption) ?_
    | refine ko_suc (by assumption) ?_
    | refine ko_suw (by assumption) ?_
    | refine ko_none
  all_goals (intro a k q; have q2 := hP a k q; clear hP q; have q0_ := q2; clear q2)
  all_goals ((repeat' apply And.intro) <;> first | exact trivial | assumption | exact fun e => absurd e.1 (by assumption))

theorem fr_X9_isLodger {P : Nat → Nat → Prop} {σ0 σ : mm_S} {a0 : Nat} {i1 : Int32} (hP : ∀ a k, P a k → True) (h : ko_K P σ0 σ) : ko Prod.snd P σ0 (f_X9_isLodger a0 i1 σ) := by
  unfold f_X9_isLodger
  repeat' with_reducible first
    | assumption
    | refine ko_someV ?_
    | refine ko_someR ?_
    | refine ko_ite ?_ ?_
    | refine ko_gd (fun _ => ?_)
    | refine ko_gz ?_
    | refine ko_gb ?_
    | refine ko_gq ?_
    | refine ko_gl ?_
    | refine ko_lts ?_ (fun _ _ => ?_)
    | refine ko_ltx (fun _ => ?_)
    | refine ko_bd ?_ (fun _ _ _ => ?_)
    | refine ko_bv ?_ (fun _ _ => ?_)
    | refine ko_sui (by assumption) ?_
    | refine ko_suj (by assumption) ?_
    | refine ko_suc (by assumption) ?_
    | refine ko_suw (by assumption) ?_
    | refine ko_none
  all_goals (intro a k q; have q2 := hP a k q; clear hP q)
  all_goals ((repeat' apply And.intro) <;> first | exact trivial | assumption)

theorem fr_X9_lodger {P : Nat → Nat → Prop} {σ0 σ : mm_S} {a0 : Nat} {i1 : Int32} {i2 : Int32} (hP : ∀ a k, P a k → True) (h : ko_K P σ0 σ) : ko Prod.snd P σ0 (f_X9_lodger a0 i1 i2 σ) := by
  unfold f_X9_lodger
  repeat' with_reducible first
    | assumption
    | refine ko_someV ?_
    | refine ko_someR ?_
    | refine ko_ite ?_ ?_
    | refine ko_gd (fun _ => ?_)
    | refine ko_gz ?_
    | refine ko_gb ?_
    | refine ko_gq ?_
    | refine ko_gl ?_
    | refine ko_lts ?_ (fun _ _ => ?_)
    | refine ko_ltx (fun _ => ?_)
    | refine ko_bd ?_ (fun _ _ _ => ?_)
    | refine ko_bv ?_ (fun _ _ => ?_)
    | refine ko_sui (by assumption) ?_
    | refine ko_suj (by assumption) ?_
    | refine ko_suc (by assumption) ?_
    | refine ko_suw (by assumption) ?_
    | refine ko_none
    | (refine fr_X9_isLodger ?_ (by assumption))
    | (refine fr_X2_isIn ?_ (by assumption))
  all_goals (intro a k q; have q2 := hP a k q; clear hP q)
  all_goals ((repeat' apply And.intro) <;> first | exact trivial | assumption)

theorem fr_X9_areUnlike {P : Nat → Nat → Prop} {σ0 σ : mm_S} {a0 : Nat} {i1 : Int32} {i2 : Int32} (hP : ∀ a k, P a k → True) (h : ko_K P σ0 σ) : ko Prod.snd P σ0 (f_X9_areUnlike a0 i1 i2 σ) := by
  unfold f_X9_areUnlike
  repeat' with_reducible first
    | assumption
    | refine ko_someV ?_
    | refine ko_someR ?_
    | refine ko_ite ?_ ?_
    | refine ko_gd (fun _ => ?_)
    | refine ko_gz ?_
    | refine ko_gb ?_
    | refine ko_gq ?_
    | refine ko_gl ?_
    | refine ko_lts ?_ (fun _ _ => ?_)
    | refine ko_ltx (fun _ => ?_)
    | refine ko_bd ?_ (fun _ _ _ => ?_)
    | refine ko_bv ?_ (fun _ _ => ?_)
    | refine ko_sui (by assumption) ?_
    | refine ko_suj (by assumption) ?_
    | refine ko_suc (by assumption) ?_
    | refine ko_suw (by assumption) ?_
    | refine ko_none
    | (refine fr_X9_isLodger ?_ (by assumption))
  all_goals (intro a k q; have q2 := hP a k q; clear hP q)
  all_goals ((repeat' apply And.intro) <;> first | exact trivial | assumption)

theorem fr_X9_dear {P : Nat → Nat → Prop} {σ0 σ : mm_S} {a0 : Nat} {i1 : Int32} {i2 : Int32} (hP : ∀ a k, P a k → True) (h : ko_K P σ0 σ) : ko Prod.snd P σ0 (f_X9_dear a0 i1 i2 σ) := by
  unfold f_X9_dear
  repeat' with_reducible first
    | assumption
    | refine ko_someV ?_
    | refine ko_someR ?_
    | refine ko_ite ?_ ?_
    | refine ko_gd (fun _ => ?_)
    | refine ko_gz ?_
    | refine ko_gb ?_
    | refine ko_gq ?_
    | refine ko_gl ?_
    | refine ko_lts ?_ (fun _ _ => ?_)
    | refine ko_ltx (fun _ => ?_)
    | refine ko_bd ?_ (fun _ _ _ => ?_)
    | refine ko_bv ?_ (fun _ _ => ?_)
    | refine ko_sui (by assumption) ?_
    | refine ko_suj (by assumption) ?_
    | refine ko_suc (by assumption) ?_
    | refine ko_suw (by assumption) ?_
    | refine ko_none
    | (refine fr_X9_areUnlike ?_ (by assumption))
    | (refine fr_X1_dearness ?_ (by assumption))
  all_goals (intro a k q; have q2 := hP a k q; clear hP q)
  all_goals ((repeat' apply And.intro) <;> first | exact trivial | assumption)

theorem fr_X9_sum_4 {P : Nat → Nat → Prop} {σ0 σ : mm_S} {a0 : Nat} {i1 : Int32} {i2 : Int32} (hP : ∀ a k, P a k → True) (h : ko_K P σ0 σ) : ko Prod.snd P σ0 (f_X9_sum_4 a0 i1 i2 σ) := by
  unfold f_X9_sum_4
  refine ko_lp (fun rec hrec v τ hτ => ?_) lpN _ _ h
  repeat' with_reducible first
    | assumption
    | refine ko_someV ?_
    | refine ko_someR ?_
    | refine ko_ite ?_ ?_
    | refine ko_gd (fun _ => ?_)
    | refine ko_gz ?_
    | refine ko_gb ?_
    | refine ko_gq ?_
    | refine ko_gl ?_
    | refine ko_lts ?_ (fun _ _ => ?_)
    | refine ko_ltx (fun _ => ?_)
    | refine ko_bd ?_ (fun _ _ _ => ?_)
    | refine ko_bv ?_ (fun _ _ => ?_)
    | refine ko_sui (by assumption) ?_
    | refine ko_suj (by assumption) ?_
    | refine ko_suc (by assumption) ?_
    | refine ko_suw (by assumption) ?_
    | refine ko_none
    | (apply hrec; assumption)
  all_goals (intro a k q; have q2 := hP a k q; clear hP q)
  all_goals ((repeat' apply And.intro) <;> first | exact trivial | assumption)

theorem fr_X9_sum {P : Nat → Nat → Prop} {σ0 σ : mm_S} {a0 : Nat} (hP : ∀ a k, P a k → True) (h : ko_K P σ0 σ) : ko Prod.snd P σ0 (f_X9_sum a0 σ) := by
  unfold f_X9_sum
  repeat' with_reducible first
    | assumption
    | refine ko_someV ?_
    | refine ko_someR ?_
    | refine ko_ite ?_ ?_
    | refine ko_gd (fun _ => ?_)
    | refine ko_gz ?_
    | refine ko_gb ?_
    | refine ko_gq ?_
    | refine ko_gl ?_
    | refine ko_lts ?_ (fun _ _ => ?_)
    | refine ko_ltx (fun _ => ?_)
    | refine ko_bd ?_ (fun _ _ _ => ?_)
    | refine ko_bv ?_ (fun _ _ => ?_)
    | refine ko_sui (by assumption) ?_
    | refine ko_suj (by assumption) ?_
    | refine ko_suc (by assumption) ?_
    | refine ko_suw (by assumption) ?_
    | refine ko_none
    | (refine fr_X9_sum_4 ?_ (by assumption))
  all_goals (intro a k q; have q2 := hP a k q; clear hP q)
  all_goals ((repeat' apply And.intro) <;> first | exact trivial | assumption)

theorem fr_X9_count {P : Nat → Nat → Prop} {σ0 σ : mm_S} {a0 : Nat} {i1 : Int32} (hP : ∀ a k, P a k → True) (h : ko_K P σ0 σ) : ko Prod.snd P σ0 (f_X9_count a0 i1 σ) := by
  unfold f_X9_count
  repeat' with_reducible first
    | assumption
    | refine ko_someV ?_
    | refine ko_someR ?_
    | refine ko_ite ?_ ?_
    | refine ko_gd (fun _ => ?_)
    | refine ko_gz ?_
    | refine ko_gb ?_
    | refine ko_gq ?_
    | refine ko_gl ?_
    | refine ko_lts ?_ (fun _ _ => ?_)
    | refine ko_ltx (fun _ => ?_)
    | refine ko_bd ?_ (fun _ _ _ => ?_)
    | refine ko_bv ?_ (fun _ _ => ?_)
    | refine ko_sui (by assumption) ?_
    | refine ko_suj (by assumption) ?_
    | refine ko_suc (by assumption) ?_
    | refine ko_suw (by assumption) ?_
    | refine ko_none
    | (refine fr_X1_countsAt ?_ (by assumption))
    | (refine fr_X9_sum ?_ (by assumption))
  all_goals (intro a k q; have q2 := hP a k q; clear hP q)
  all_goals ((repeat' apply And.intro) <;> first | exact trivial | assumption)

theorem fr_X9_walkFromNow {P : Nat → Nat → Prop} {σ0 σ : mm_S} {a0 : Nat} (hP : ∀ a k, P a k → ¬ (a = 999 ∧ k = 0) ∧ ¬ (a = 200 ∧ k = 3) ∧ ¬ (a = 200 ∧ k = 4) ∧ ¬ (a = 200 ∧ k = 5) ∧ ¬ (a = 201 ∧ k = 0) ∧ ¬ (a = 201 ∧ k = 1) ∧ a ≠ 202 ∧ a ≠ 203 ∧ a ≠ 204 ∧ a ≠ 205 ∧ a ≠ 206) (h : ko_K P σ0 σ) : ko id P σ0 (f_X9_walkFromNow a0 σ) := by
  unfold f_X9_walkFromNow
  repeat' with_reducible first
    | assumption
    | refine ko_someV ?_
    | refine ko_someR ?_
    | refine ko_ite ?_ ?_
    | refine ko_gd (fun _ => ?_)
    | refine ko_gz ?_
    | refine ko_gb ?_
    | refine ko_gq ?_
    | refine ko_gl ?_
    | refine ko_lts ?_ (fun _ _ => ?_)
    | refine ko_ltx (fun _ => ?_)
    | refine ko_bd ?_ (fun _ _ _ => ?_)
    | refine ko_bv ?_ (fun _ _ => ?_)
    | refine ko_sui (by assumption) ?_
    | refine ko_suj (by assumption) ?_
    | refine ko_suc (by assumption) ?_
    | refine ko_suw (by assumption) ?_
    | refine ko_none
    | (refine fr_X7_begin ?_ (by assumption))
  all_goals (intro a k q; have q2 := hP a k q; clear hP q; obtain ⟨q0_, q1_, q2_, q3_, q4_, q5_, q6_, q7_, q8_, q9_, q10_⟩ := q2)
  all_goals ((repeat' apply And.intro) <;> first | exact trivial | assumption | exact fun e => absurd e.1 (by assumption))

theorem fr_X9_hour {P : Nat → Nat → Prop} {σ0 σ : mm_S} {a0 : Nat} (hP : ∀ a k, P a k → ¬ (a = 98 ∧ k = 1) ∧ ¬ (a = 98 ∧ k = 2) ∧ (a < 100 ∨ 200 ≤ a) ∧ ¬ (a = 999 ∧ k = 0) ∧ ¬ (a = 200 ∧ k = 3) ∧ ¬ (a = 200 ∧ k = 4) ∧ ¬ (a = 200 ∧ k = 5) ∧ ¬ (a = 201 ∧ k = 0) ∧ ¬ (a = 201 ∧ k = 1) ∧ a ≠ 202 ∧ a ≠ 203 ∧ a ≠ 204 ∧ a ≠ 205 ∧ a ≠ 206 ∧ a ≠ 207 ∧ a ≠ 208 ∧ a ≠ 209 ∧ a ≠ 210 ∧ ¬ (a = 31 ∧ k = 0) ∧ ¬ (a = 31 ∧ k = 1) ∧ a ≠ 32 ∧ a ≠ 33 ∧ a ≠ 34 ∧ a ≠ 35) (h : ko_K P σ0 σ) : ko Prod.snd P σ0 (f_X9_hour a0 σ) := by
  unfold f_X9_hour
  repeat' with_reducible first
    | assumption
    | refine ko_someV ?_
    | refine ko_someR ?_
    | refine ko_ite ?_ ?_
    | refine ko_gd (fun _ => ?_)
    | refine ko_gz ?_
    | refine ko_gb ?_
    | refine ko_gq ?_
    | refine ko_gl ?_
    | refine ko_lts ?_ (fun _ _ => ?_)
    | refine ko_ltx (fun _ => ?_)
    | refine ko_bd ?_ (fun _ _ _ => ?_)
    | refine ko_bv ?_ (fun _ _ => ?_)
    | refine ko_sui (by assumption) ?_
    | refine ko_suj (by assumption) ?_
    | refine ko_suc (by assumption) ?_
    | refine ko_suw (by assumption) ?_
    | refine ko_none
    | (refine fr_X0_keep ?_ (by assumption))
    | (refine fr_X9_walkFromNow ?_ (by assumption))
    | (refine fr_X7_passHours ?_ (by assumption))
    | (refine fr_X2_take ?_ (by assumption))
  all_goals (intro a k q; have q2 := hP a k q; clear hP q; obtain ⟨q0_, q1_, q2_, q3_, q4_, q5_, q6_, q7_, q8_, q9_, q10_, q11_, q12_, q13_, q14_, q15_, q16_, q17_, q18_, q19_, q20_, q21_, q22_, q23_⟩ := q2)
  all_goals ((repeat' apply And.intro) <;> first | exact trivial | assumption | exact fun e => absurd e.1 (by assumption) | (clear q0_ q1_ q3_ q4_ q5_ q6_ q7_ q8_ q9_ q10_ q11_ q12_ q13_ q14_ q15_ q16_ q17_ q18_ q19_ q20_ q21_ q22_ q23_; omega))

theorem fr_X9_bid_21 {P : Nat → Nat → Prop} {σ0 σ : mm_S} {a0 : Nat} {i1 : Int32} {i2 : Int32} (hP : ∀ a k, P a k → a ≠ 34 ∧ ¬ (a = 98 ∧ k = 1) ∧ ¬ (a = 98 ∧ k = 2) ∧ (a < 100 ∨ 200 ≤ a)) (h : ko_K P σ0 σ) : ko Prod.snd P σ0 (f_X9_bid_21 a0 i1 i2 σ) := by
  unfold f_X9_bid_21
  repeat' with_reducible first
    | assumption
    | refine ko_someV ?_
    | refine ko_someR ?_
    | refine ko_ite ?_ ?_
    | refine ko_gd (fun _ => ?_)
    | refine ko_gz ?_
    | refine ko_gb ?_
    | refine ko_gq ?_
    | refine ko_gl ?_
    | refine ko_lts ?_ (fun _ _ => ?_)
    | refine ko_ltx (fun _ => ?_)
    | refine ko_bd ?_ (fun _ _ _ => ?_)
    | refine ko_bv ?_ (fun _ _ => ?_)
    | refine ko_sui (by assumption) ?_
    | refine ko_suj (by assumption) ?_
    | refine ko_suc (by assumption) ?_
    | refine ko_suw (by assumption) ?_
    | refine ko_none
    | (refine fr_X2_isIn ?_ (by assumption))
    | (refine fr_X0_keep ?_ (by assumption))
  all_goals (intro a k q; have q2 := hP a k q; clear hP q; obtain ⟨q0_, q1_, q2_, q3_⟩ := q2)
  all_goals ((repeat' apply And.intro) <;> first | exact trivial | assumption | exact fun e => absurd e.1 (by assumption) | (clear q0_ q1_ q2_; omega))

theorem fr_X9_bid {P : Nat → Nat → Prop} {σ0 σ : mm_S} {a0 : Nat} {i1 : Int32} {i2 : Int32} (hP : ∀ a k, P a k → a ≠ 34 ∧ ¬ (a = 98 ∧ k = 1) ∧ ¬ (a = 98 ∧ k = 2) ∧ (a < 100 ∨ 200 ≤ a)) (h : ko_K P σ0 σ) : ko Prod.snd P σ0 (f_X9_bid a0 i1 i2 σ) := by
  unfold f_X9_bid
  repeat' with_reducible first
    | assumption
    | refine ko_someV ?_
    | refine ko_someR ?_
    | refine ko_ite ?_ ?_
    | refine ko_gd (fun _ => ?_)
    | refine ko_gz ?_
    | refine ko_gb ?_
    | refine ko_gq ?_
    | refine ko_gl ?_
    | refine ko_lts ?_ (fun _ _ => ?_)
    | refine ko_ltx (fun _ => ?_)
    | refine ko_bd ?_ (fun _ _ _ => ?_)
    | refine ko_bv ?_ (fun _ _ => ?_)
    | refine ko_sui (by assumption) ?_
    | refine ko_suj (by assumption) ?_
    | refine ko_suc (by assumption) ?_
    | refine ko_suw (by assumption) ?_
    | refine ko_none
    | (refine fr_X9_isLodger ?_ (by assumption))
    | (refine fr_X9_bid_21 ?_ (by assumption))
  all_goals (intro a k q; have q2 := hP a k q; clear hP q; obtain ⟨q0_, q1_, q2_, q3_⟩ := q2)
  all_goals ((repeat' apply And.intro) <;> first | exact trivial | assumption | exact fun e => absurd e.1 (by assumption) | (clear q0_ q1_ q2_; omega))

theorem fr_X9_call {P : Nat → Nat → Prop} {σ0 σ : mm_S} {a0 : Nat} {i1 : Int32} (hP : ∀ a k, P a k → ¬ (a = 31 ∧ k = 1) ∧ ¬ (a = 98 ∧ k = 1) ∧ ¬ (a = 98 ∧ k = 2) ∧ (a < 100 ∨ 200 ≤ a)) (h : ko_K P σ0 σ) : ko Prod.snd P σ0 (f_X9_call a0 i1 σ) := by
  unfold f_X9_call
  repeat' with_reducible first
    | assumption
    | refine ko_someV ?_
    | refine ko_someR ?_
    | refine ko_ite ?_ ?_
    | refine ko_gd (fun _ => ?_)
    | refine ko_gz ?_
    | refine ko_gb ?_
    | refine ko_gq ?_
    | refine ko_gl ?_
    | refine ko_lts ?_ (fun _ _ => ?_)
    | refine ko_ltx (fun _ => ?_)
    | refine ko_bd ?_ (fun _ _ _ => ?_)
    | refine ko_bv ?_ (fun _ _ => ?_)
    | refine ko_sui (by assumption) ?_
    | refine ko_suj (by assumption) ?_
    | refine ko_suc (by assumption) ?_
    | refine ko_suw (by assumption) ?_
    | refine ko_none
    | (refine fr_X9_isLodger ?_ (by assumption))
    | (refine fr_X2_isIn ?_ (by assumption))
    | (refine fr_X0_keep ?_ (by assumption))
  all_goals (intro a k q; have q2 := hP a k q; clear hP q; obtain ⟨q0_, q1_, q2_, q3_⟩ := q2)
  all_goals ((repeat' apply And.intro) <;> first | exact trivial | assumption | exact fun e => absurd e.1 (by assumption) | (clear q0_ q1_ q2_; omega))

theorem fr_X9_pay {P : Nat → Nat → Prop} {σ0 σ : mm_S} {a0 : Nat} {i1 : Int32} {i2 : Int32} {i3 : Int32} (hP : ∀ a k, P a k → ¬ (a = 98 ∧ k = 1) ∧ ¬ (a = 98 ∧ k = 2) ∧ (a < 100 ∨ 200 ≤ a) ∧ a ≠ 33) (h : ko_K P σ0 σ) : ko Prod.snd P σ0 (f_X9_pay a0 i1 i2 i3 σ) := by
  unfold f_X9_pay
  repeat' with_reducible first
    | assumption
    | refine ko_someV ?_
    | refine ko_someR ?_
    | refine ko_ite ?_ ?_
    | refine ko_gd (fun _ => ?_)
    | refine ko_gz ?_
    | refine ko_gb ?_
    | refine ko_gq ?_
    | refine ko_gl ?_
    | refine ko_lts ?_ (fun _ _ => ?_)
    | refine ko_ltx (fun _ => ?_)
    | refine ko_bd ?_ (fun _ _ _ => ?_)
    | refine ko_bv ?_ (fun _ _ => ?_)
    | refine ko_sui (by assumption) ?_
    | refine ko_suj (by assumption) ?_
    | refine ko_suc (by assumption) ?_
    | refine ko_suw (by assumption) ?_
    | refine ko_none
    | (refine fr_X9_areUnlike ?_ (by assumption))
    | (refine fr_X0_keep ?_ (by assumption))
    | (refine fr_X2_give ?_ (by assumption))
  all_goals (intro a k q; have q2 := hP a k q; clear hP q; obtain ⟨q0_, q1_, q2_, q3_⟩ := q2)
  all_goals ((repeat' apply And.intro) <;> first | exact trivial | assumption | exact fun e => absurd e.1 (by assumption) | (clear q0_ q1_ q3_; omega))

theorem fr_X9_tire {P : Nat → Nat → Prop} {σ0 σ : mm_S} {a0 : Nat} {i1 : Int32} {i2 : Int32} (hP : ∀ a k, P a k → ¬ (a = 98 ∧ k = 1) ∧ ¬ (a = 98 ∧ k = 2) ∧ (a < 100 ∨ 200 ≤ a) ∧ a ≠ 32) (h : ko_K P σ0 σ) : ko Prod.snd P σ0 (f_X9_tire a0 i1 i2 σ) := by
  unfold f_X9_tire
  repeat' with_reducible first
    | assumption
    | refine ko_someV ?_
    | refine ko_someR ?_
    | refine ko_ite ?_ ?_
    | refine ko_gd (fun _ => ?_)
    | refine ko_gz ?_
    | refine ko_gb ?_
    | refine ko_gq ?_
    | refine ko_gl ?_
    | refine ko_lts ?_ (fun _ _ => ?_)
    | refine ko_ltx (fun _ => ?_)
    | refine ko_bd ?_ (fun _ _ _ => ?_)
    | refine ko_bv ?_ (fun _ _ => ?_)
    | refine ko_sui (by assumption) ?_
    | refine ko_suj (by assumption) ?_
    | refine ko_suc (by assumption) ?_
    | refine ko_suw (by assumption) ?_
    | refine ko_none
    | (refine fr_X9_isLodger ?_ (by assumption))
    | (refine fr_X0_keep ?_ (by assumption))
    | (refine fr_X2_tireBy ?_ (by assumption))
  all_goals (intro a k q; have q2 := hP a k q; clear hP q; obtain ⟨q0_, q1_, q2_, q3_⟩ := q2)
  all_goals ((repeat' apply And.intro) <;> first | exact trivial | assumption | exact fun e => absurd e.1 (by assumption) | (clear q0_ q1_ q3_; omega))

theorem fr_X9_undo {P : Nat → Nat → Prop} {σ0 σ : mm_S} {a0 : Nat} (hP : ∀ a k, P a k → ¬ (a = 98 ∧ k = 1) ∧ ¬ (a = 98 ∧ k = 2) ∧ ¬ (a = 31 ∧ k = 0) ∧ ¬ (a = 31 ∧ k = 1) ∧ a ≠ 32 ∧ a ≠ 33 ∧ a ≠ 34 ∧ a ≠ 35) (h : ko_K P σ0 σ) : ko Prod.snd P σ0 (f_X9_undo a0 σ) := by
  unfold f_X9_undo
  repeat' with_reducible first
    | assumption
    | refine ko_someV ?_
    | refine ko_someR ?_
    | refine ko_ite ?_ ?_
    | refine ko_gd (fun _ => ?_)
    | refine ko_gz ?_
    | refine ko_gb ?_
    | refine ko_gq ?_
    | refine ko_gl ?_
    | refine ko_lts ?_ (fun _ _ => ?_)
    | refine ko_ltx (fun _ => ?_)
    | refine ko_bd ?_ (fun _ _ _ => ?_)
    | refine ko_bv ?_ (fun _ _ => ?_)
    | refine ko_sui (by assumption) ?_
    | refine ko_suj (by assumption) ?_
    | refine ko_suc (by assumption) ?_
    | refine ko_suw (by assumption) ?_
    | refine ko_none
    | (refine fr_X0_putBack ?_ (by assumption))
  all_goals (intro a k q; have q2 := hP a k q; clear hP q; obtain ⟨q0_, q1_, q2_, q3_, q4_, q5_, q6_, q7_⟩ := q2)
  all_goals ((repeat' apply And.intro) <;> first | exact trivial | assumption | exact fun e => absurd e.1 (by assumption))

theorem fr_X9_ahead {P : Nat → Nat → Prop} {σ0 σ : mm_S} {a0 : Nat} {i1 : Int32} {i2 : Int32} {i3 : Int32} (hP : ∀ a k, P a k → ¬ (a = 999 ∧ k = 0) ∧ ¬ (a = 200 ∧ k = 3) ∧ ¬ (a = 200 ∧ k = 4) ∧ ¬ (a = 200 ∧ k = 5) ∧ ¬ (a = 201 ∧ k = 0) ∧ ¬ (a = 201 ∧ k = 1) ∧ a ≠ 202 ∧ a ≠ 203 ∧ a ≠ 204 ∧ a ≠ 205 ∧ a ≠ 206 ∧ a ≠ 207 ∧ a ≠ 208 ∧ a ≠ 209 ∧ a ≠ 210) (h : ko_K P σ0 σ) : ko Prod.snd P σ0 (f_X9_ahead a0 i1 i2 i3 σ) := by
  unfold f_X9_ahead
  repeat' with_reducible first
    | assumption
    | refine ko_someV ?_
    | refine ko_someR ?_
    | refine ko_ite ?_ ?_
    | refine ko_gd (fun _ => ?_)
    | refine ko_gz ?_
    | refine ko_gb ?_
    | refine ko_gq ?_
    | refine ko_gl ?_
    | refine ko_lts ?_ (fun _ _ => ?_)
    | refine ko_ltx (fun _ => ?_)
    | refine ko_bd ?_ (fun _ _ _ => ?_)
    | refine ko_bv ?_ (fun _ _ => ?_)
    | refine ko_sui (by assumption) ?_
    | refine ko_suj (by assumption) ?_
    | refine ko_suc (by assumption) ?_
    | refine ko_suw (by assumption) ?_
    | refine ko_none
    | (refine fr_X9_isLodger ?_ (by assumption))
    | (refine fr_X9_walkFromNow ?_ (by assumption))
    | (refine fr_X7_passHours ?_ (by assumption))
  all_goals (intro a k q; have q2 := hP a k q; clear hP q; obtain ⟨q0_, q1_, q2_, q3_, q4_, q5_, q6_, q7_, q8_, q9_, q10_, q11_, q12_, q13_, q14_⟩ := q2)
  all_goals ((repeat' apply And.intro) <;> first | exact trivial | assumption | exact fun e => absurd e.1 (by assumption))

theorem fr_X9_rested_16 {P : Nat → Nat → Prop} {σ0 σ : mm_S} {a0 : Nat} {i1 : Int32} {i2 : Int32} (hP : ∀ a k, P a k → ¬ (a = 201 ∧ k = 0) ∧ ¬ (a = 201 ∧ k = 1) ∧ a ≠ 207 ∧ a ≠ 208 ∧ a ≠ 204 ∧ a ≠ 209 ∧ a ≠ 210 ∧ a ≠ 202 ∧ a ≠ 205 ∧ a ≠ 203) (h : ko_K P σ0 σ) : ko Prod.snd P σ0 (f_X9_rested_16 a0 i1 i2 σ) := by
  unfold f_X9_rested_16
  refine ko_lp (fun rec hrec v τ hτ => ?_) lpN _ _ h
  repeat' with_reducible first
    | assumption
    | refine ko_someV ?_
    | refine ko_someR ?_
    | refine ko_ite ?_ ?_
    | refine ko_gd (fun _ => ?_)
    | refine ko_gz ?_
    | refine ko_gb ?_
    | refine ko_gq ?_
    | refine ko_gl ?_
    | refine ko_lts ?_ (fun _ _ => ?_)
    | refine ko_ltx (fun _ => ?_)
    | refine ko_bd ?_ (fun _ _ _ => ?_)
    | refine ko_bv ?_ (fun _ _ => ?_)
    | refine ko_sui (by assumption) ?_
    | refine ko_suj (by assumption) ?_
    | refine ko_suc (by assumption) ?_
    | refine ko_suw (by assumption) ?_
    | refine ko_none
    | (apply hrec; assumption)
    | (refine fr_X7_passHours ?_ (by assumption))
  all_goals (intro a k q; have q2 := hP a k q; clear hP q; obtain ⟨q0_, q1_, q2_, q3_, q4_, q5_, q6_, q7_, q8_, q9_⟩ := q2)
  all_goals ((repeat' apply And.intro) <;> first | exact trivial | assumption | exact fun e => absurd e.1 (by assumption))

theorem fr_X9_rested {P : Nat → Nat → Prop} {σ0 σ : mm_S} {a0 : Nat} {i1 : Int32} (hP : ∀ a k, P a k → ¬ (a = 999 ∧ k = 0) ∧ ¬ (a = 200 ∧ k = 3) ∧ ¬ (a = 200 ∧ k = 4) ∧ ¬ (a = 200 ∧ k = 5) ∧ ¬ (a = 201 ∧ k = 0) ∧ ¬ (a = 201 ∧ k = 1) ∧ a ≠ 202 ∧ a ≠ 203 ∧ a ≠ 204 ∧ a ≠ 205 ∧ a ≠ 206 ∧ a ≠ 207 ∧ a ≠ 208 ∧ a ≠ 209 ∧ a ≠ 210) (h : ko_K P σ0 σ) : ko Prod.snd P σ0 (f_X9_rested a0 i1 σ) := by
  unfold f_X9_rested
  repeat' with_reducible first
    | assumption
    | refine ko_someV ?_
    | refine ko_someR ?_
    | refine ko_ite ?_ ?_
    | refine ko_gd (fun _ => ?_)
    | refine ko_gz ?_
    | refine ko_gb ?_
    | refine ko_gq ?_
    | refine ko_gl ?_
    | refine ko_lts ?_ (fun _ _ => ?_)
    | refine ko_ltx (fun _ => ?_)
    | refine ko_bd ?_ (fun _ _ _ => ?_)
    | refine ko_bv ?_ (fun _ _ => ?_)
    | refine ko_sui (by assumption) ?_
    | refine ko_suj (by assumption) ?_
    | refine ko_suc (by assumption) ?_
    | refine ko_suw (by assumption) ?_
    | refine ko_none
    | (refine fr_X9_isLodger ?_ (by assumption))
    | (refine fr_X9_walkFromNow ?_ (by assumption))
    | (refine fr_X9_rested_16 ?_ (by assumption))
  all_goals (intro a k q; have q2 := hP a k q; clear hP q; obtain ⟨q0_, q1_, q2_, q3_, q4_, q5_, q6_, q7_, q8_, q9_, q10_, q11_, q12_, q13_, q14_⟩ := q2)
  all_goals ((repeat' apply And.intro) <;> first | exact trivial | assumption | exact fun e => absurd e.1 (by assumption))

theorem fr_X9_chain_86 {P : Nat → Nat → Prop} {σ0 σ : mm_S} {i1 : Int32} {i2 : Int32} {i4 : Int32} {i5 : Int32} (hP : ∀ a k, P a k → True) (h : ko_K P σ0 σ) : ko Prod.snd P σ0 (f_X9_chain_86 i1 i2 i4 i5 σ) := by
  unfold f_X9_chain_86
  repeat' with_reducible first
    | assumption
    | refine ko_someV ?_
    | refine ko_someR ?_
    | refine ko_ite ?_ ?_
    | refine ko_gd (fun _ => ?_)
    | refine ko_gz ?_
    | refine ko_gb ?_
    | refine ko_gq ?_
    | refine ko_gl ?_
    | refine ko_lts ?_ (fun _ _ => ?_)
    | refine ko_ltx (fun _ => ?_)
    | refine ko_bd ?_ (fun _ _ _ => ?_)
    | refine ko_bv ?_ (fun _ _ => ?_)
    | refine ko_sui (by assumption) ?_
    | refine ko_suj (by assumption) ?_
    | refine ko_suc (by assumption) ?_
    | refine ko_suw (by assumption) ?_
    | refine ko_none
  all_goals (intro a k q; have q2 := hP a k q; clear hP q)
  all_goals ((repeat' apply And.intro) <;> first | exact trivial | assumption)

theorem fr_X9_chain_30 {P : Nat → Nat → Prop} {σ0 σ : mm_S} {a0 : Nat} {i1 : Int32} {i2 : Int32} {i3 : Int32} {i4 : Int32} {i5 : Int32} {i6 : Int32} (hP : ∀ a k, P a k → True) (h : ko_K P σ0 σ) : ko Prod.snd P σ0 (f_X9_chain_30 a0 i1 i2 i3 i4 i5 i6 σ) := by
  unfold f_X9_chain_30
  refine ko_lp (fun rec hrec v τ hτ => ?_) lpN _ _ h
  repeat' with_reducible first
    | assumption
    | refine ko_someV ?_
    | refine ko_someR ?_
    | refine ko_ite ?_ ?_
    | refine ko_gd (fun _ => ?_)
    | refine ko_gz ?_
    | refine ko_gb ?_
    | refine ko_gq ?_
    | refine ko_gl ?_
    | refine ko_lts ?_ (fun _ _ => ?_)
    | refine ko_ltx (fun _ => ?_)
    | refine ko_bd ?_ (fun _ _ _ => ?_)
    | refine ko_bv ?_ (fun _ _ => ?_)
    | refine ko_sui (by assumption) ?_
    | refine ko_suj (by assumption) ?_
    | refine ko_suc (by assumption) ?_
    | refine ko_suw (by assumption) ?_
    | refine ko_none
    | (apply hrec; assumption)
    | (refine fr_X9_chain_86 ?_ (by assumption))
    | (refine fr_X9_isLodger ?_ (by assumption))
  all_goals (intro a k q; have q2 := hP a k q; clear hP q)
  all_goals ((repeat' apply And.intro) <;> first | exact trivial | assumption)

theorem fr_X9_chain {P : Nat → Nat → Prop} {σ0 σ : mm_S} {a0 : Nat} {i1 : Int32} {i2 : Int32} (hP : ∀ a k, P a k → True) (h : ko_K P σ0 σ) : ko Prod.snd P σ0 (f_X9_chain a0 i1 i2 σ) := by
  unfold f_X9_chain
  repeat' with_reducible first
    | assumption
    | refine ko_someV ?_
    | refine ko_someR ?_
    | refine ko_ite ?_ ?_
    | refine ko_gd (fun _ => ?_)
    | refine ko_gz ?_
    | refine ko_gb ?_
    | refine ko_gq ?_
    | refine ko_gl ?_
    | refine ko_lts ?_ (fun _ _ => ?_)
    | refine ko_ltx (fun _ => ?_)
    | refine ko_bd ?_ (fun _ _ _ => ?_)
    | refine ko_bv ?_ (fun _ _ => ?_)
    | refine ko_sui (by assumption) ?_
    | refine ko_suj (by assumption) ?_
    | refine ko_suc (by assumption) ?_
    | refine ko_suw (by assumption) ?_
    | refine ko_none
    | (refine fr_X9_isLodger ?_ (by assumption))
    | (refine fr_X9_chain_30 ?_ (by assumption))
  all_goals (intro a k q; have q2 := hP a k q; clear hP q)
  all_goals ((repeat' apply And.intro) <;> first | exact trivial | assumption)

theorem fr_X9_everybody {P : Nat → Nat → Prop} {σ0 σ : mm_S} {a0 : Nat} (hP : ∀ a k, P a k → True) (h : ko_K P σ0 σ) : ko Prod.snd P σ0 (f_X9_everybody a0 σ) := by
  unfold f_X9_everybody
  repeat' with_reducible first
    | assumption
    | refine ko_someV ?_
    | refine ko_someR ?_
    | refine ko_ite ?_ ?_
    | refine ko_gd (fun _ => ?_)
    | refine ko_gz ?_
    | refine ko_gb ?_
    | refine ko_gq ?_
    | refine ko_gl ?_
    | refine ko_lts ?_ (fun _ _ => ?_)
    | refine ko_ltx (fun _ => ?_)
    | refine ko_bd ?_ (fun _ _ _ => ?_)
    | refine ko_bv ?_ (fun _ _ => ?_)
    | refine ko_sui (by assumption) ?_
    | refine ko_suj (by assumption) ?_
    | refine ko_suc (by assumption) ?_
    | refine ko_suw (by assumption) ?_
    | refine ko_none
  all_goals (intro a k q; have q2 := hP a k q; clear hP q)
  all_goals ((repeat' apply And.intro) <;> first | exact trivial | assumption)

theorem fr_X9_lonely {P : Nat → Nat → Prop} {σ0 σ : mm_S} {a0 : Nat} (hP : ∀ a k, P a k → True) (h : ko_K P σ0 σ) : ko Prod.snd P σ0 (f_X9_lonely a0 σ) := by
  unfold f_X9_lonely
  repeat' with_reducible first
    | assumption
    | refine ko_someV ?_
    | refine ko_someR ?_
    | refine ko_ite ?_ ?_
    | refine ko_gd (fun _ => ?_)
    | refine ko_gz ?_
    | refine ko_gb ?_
    | refine ko_gq ?_
    | refine ko_gl ?_
    | refine ko_lts ?_ (fun _ _ => ?_)
    | refine ko_ltx (fun _ => ?_)
    | refine ko_bd ?_ (fun _ _ _ => ?_)
    | refine ko_bv ?_ (fun _ _ => ?_)
    | refine ko_sui (by assumption) ?_
    | refine ko_suj (by assumption) ?_
    | refine ko_suc (by assumption) ?_
    | refine ko_suw (by assumption) ?_
    | refine ko_none
    | (refine fr_X9_everybody ?_ (by assumption))
    | (refine fr_X2_sought ?_ (by assumption))
  all_goals (intro a k q; have q2 := hP a k q; clear hP q)
  all_goals ((repeat' apply And.intro) <;> first | exact trivial | assumption)

theorem fr_X9_leastOther_66 {P : Nat → Nat → Prop} {σ0 σ : mm_S} {k3 : (Int32) → mm_S → Option (Int32 × mm_S)} {a0 : Nat} {i1 : Int32} {i2 : Int32} {i3 : Int32} {i4 : Int32} {i5 : Int32} {s0 : Int32} (hP : ∀ a k, P a k → True) (hk0 : ∀ v τ, ko_K P σ0 τ → ko Prod.snd P σ0 (k3 v τ)) (h : ko_K P σ0 σ) : ko Prod.snd P σ0 (f_X9_leastOther_66 k3 a0 i1 i2 i3 i4 i5 s0 σ) := by
  unfold f_X9_leastOther_66
  repeat' with_reducible first
    | assumption
    | refine ko_someV ?_
    | refine ko_someR ?_
    | refine ko_ite ?_ ?_
    | refine ko_gd (fun _ => ?_)
    | refine ko_gz ?_
    | refine ko_gb ?_
    | refine ko_gq ?_
    | refine ko_gl ?_
    | refine ko_lts ?_ (fun _ _ => ?_)
    | refine ko_ltx (fun _ => ?_)
    | refine ko_bd ?_ (fun _ _ _ => ?_)
    | refine ko_bv ?_ (fun _ _ => ?_)
    | refine ko_sui (by assumption) ?_
    | refine ko_suj (by assumption) ?_
    | refine ko_suc (by assumption) ?_
    | refine ko_suw (by assumption) ?_
    | refine ko_none
    | (apply hk0; assumption)
  all_goals (intro a k q; have q2 := hP a k q; clear hP q)
  all_goals ((repeat' apply And.intro) <;> first | exact trivial | assumption)

theorem fr_X9_leastOther_39 {P : Nat → Nat → Prop} {σ0 σ : mm_S} {k3 : (Int32) → mm_S → Option (Int32 × mm_S)} {a0 : Nat} {i1 : Int32} {i2 : Int32} {i3 : Int32} {i4 : Int32} {s0 : Int32} (hP : ∀ a k, P a k → True) (hk0 : ∀ v τ, ko_K P σ0 τ → ko Prod.snd P σ0 (k3 v τ)) (h : ko_K P σ0 σ) : ko Prod.snd P σ0 (f_X9_leastOther_39 k3 a0 i1 i2 i3 i4 s0 σ) := by
  unfold f_X9_leastOther_39
  repeat' with_reducible first
    | assumption
    | refine ko_someV ?_
    | refine ko_someR ?_
    | refine ko_ite ?_ ?_
    | refine ko_gd (fun _ => ?_)
    | refine ko_gz ?_
    | refine ko_gb ?_
    | refine ko_gq ?_
    | refine ko_gl ?_
    | refine ko_lts ?_ (fun _ _ => ?_)
    | refine ko_ltx (fun _ => ?_)
    | refine ko_bd ?_ (fun _ _ _ => ?_)
    | refine ko_bv ?_ (fun _ _ => ?_)
    | refine ko_sui (by assumption) ?_
    | refine ko_suj (by assumption) ?_
    | refine ko_suc (by assumption) ?_
    | refine ko_suw (by assumption) ?_
    | refine ko_none
    | (apply hk0; assumption)
    | (refine fr_J6_bitCount_0f7a4 ?_ (by assumption))
    | (refine fr_X9_leastOther_66 ?_ (by first | exact hk0) (by assumption))
  all_goals (intro a k q; have q2 := hP a k q; clear hP q)
  all_goals ((repeat' apply And.intro) <;> first | exact trivial | assumption)

theorem fr_X9_leastOther_3 {P : Nat → Nat → Prop} {σ0 σ : mm_S} {a0 : Nat} {i1 : Int32} {i2 : Int32} {i3 : Int32} {i4 : Int32} (hP : ∀ a k, P a k → True) (h : ko_K P σ0 σ) : ko Prod.snd P σ0 (f_X9_leastOther_3 a0 i1 i2 i3 i4 σ) := by
  unfold f_X9_leastOther_3
  refine ko_lp (fun rec hrec v τ hτ => ?_) lpN _ _ h
  repeat' with_reducible first
    | assumption
    | refine ko_someV ?_
    | refine ko_someR ?_
    | refine ko_ite ?_ ?_
    | refine ko_gd (fun _ => ?_)
    | refine ko_gz ?_
    | refine ko_gb ?_
    | refine ko_gq ?_
    | refine ko_gl ?_
    | refine ko_lts ?_ (fun _ _ => ?_)
    | refine ko_ltx (fun _ => ?_)
    | refine ko_bd ?_ (fun _ _ _ => ?_)
    | refine ko_bv ?_ (fun _ _ => ?_)
    | refine ko_sui (by assumption) ?_
    | refine ko_suj (by assumption) ?_
    | refine ko_suc (by assumption) ?_
    | refine ko_suw (by assumption) ?_
    | refine ko_none
    | (apply hrec; assumption)
    | (refine fr_X9_leastOther_39 ?_ (by first | exact hrec) (by assumption))
  all_goals (intro a k q; have q2 := hP a k q; clear hP q)
  all_goals ((repeat' apply And.intro) <;> first | exact trivial | assumption)

theorem fr_X9_leastOther {P : Nat → Nat → Prop} {σ0 σ : mm_S} {a0 : Nat} {i1 : Int32} {i2 : Int32} {i3 : Int32} (hP : ∀ a k, P a k → True) (h : ko_K P σ0 σ) : ko Prod.snd P σ0 (f_X9_leastOther a0 i1 i2 i3 σ) := by
  unfold f_X9_leastOther
  repeat' with_reducible first
    | assumption
    | refine ko_someV ?_
    | refine ko_someR ?_
    | refine ko_ite ?_ ?_
    | refine ko_gd (fun _ => ?_)
    | refine ko_gz ?_
    | refine ko_gb ?_
    | refine ko_gq ?_
    | refine ko_gl ?_
    | refine ko_lts ?_ (fun _ _ => ?_)
    | refine ko_ltx (fun _ => ?_)
    | refine ko_bd ?_ (fun _ _ _ => ?_)
    | refine ko_bv ?_ (fun _ _ => ?_)
    | refine ko_sui (by assumption) ?_
    | refine ko_suj (by assumption) ?_
    | refine ko_suc (by assumption) ?_
    | refine ko_suw (by assumption) ?_
    | refine ko_none
    | (refine fr_X9_leastOther_3 ?_ (by assumption))
  all_goals (intro a k q; have q2 := hP a k q; clear hP q)
  all_goals ((repeat' apply And.intro) <;> first | exact trivial | assumption)

theorem fr_X9_fillRow_29 {P : Nat → Nat → Prop} {σ0 σ : mm_S} {a0 : Nat} {i2 : Int32} {i3 : Int32} {i4 : Int32} {i5 : Int32} (hP : ∀ a k, P a k → a ≠ 211) (h : ko_K P σ0 σ) : ko id P σ0 (f_X9_fillRow_29 a0 i2 i3 i4 i5 σ) := by
  unfold f_X9_fillRow_29
  refine ko_lp (fun rec hrec v τ hτ => ?_) lpN _ _ h
  repeat' with_reducible first
    | assumption
    | refine ko_someV ?_
    | refine ko_someR ?_
    | refine ko_ite ?_ ?_
    | refine ko_gd (fun _ => ?_)
    | refine ko_gz ?_
    | refine ko_gb ?_
    | refine ko_gq ?_
    | refine ko_gl ?_
    | refine ko_lts ?_ (fun _ _ => ?_)
    | refine ko_ltx (fun _ => ?_)
    | refine ko_bd ?_ (fun _ _ _ => ?_)
    | refine ko_bv ?_ (fun _ _ => ?_)
    | refine ko_sui (by assumption) ?_
    | refine ko_suj (by assumption) ?_
    | refine ko_suc (by assumption) ?_
    | refine ko_suw (by assumption) ?_
    | refine ko_none
    | (apply hrec; assumption)
    | (refine fr_J6_bitCount_0f7a4 ?_ (by assumption))
    | (refine fr_X9_leastOther ?_ (by assumption))
  all_goals (intro a k q; have q2 := hP a k q; clear hP q; have q0_ := q2; clear q2)
  all_goals ((repeat' apply And.intro) <;> first | exact trivial | assumption | exact fun e => absurd e.1 (by assumption))

theorem fr_X9_fillRow {P : Nat → Nat → Prop} {σ0 σ : mm_S} {a0 : Nat} {i1 : Int32} (hP : ∀ a k, P a k → a ≠ 211) (h : ko_K P σ0 σ) : ko id P σ0 (f_X9_fillRow a0 i1 σ) := by
  unfold f_X9_fillRow
  repeat' with_reducible first
    | assumption
    | refine ko_someV ?_
    | refine ko_someR ?_
    | refine ko_ite ?_ ?_
    | refine ko_gd (fun _ => ?_)
    | refine ko_gz ?_
    | refine ko_gb ?_
    | refine ko_gq ?_
    | refine ko_gl ?_
    | refine ko_lts ?_ (fun _ _ => ?_)
    | refine ko_ltx (fun _ => ?_)
    | refine ko_bd ?_ (fun _ _ _ => ?_)
    | refine ko_bv ?_ (fun _ _ => ?_)
    | refine ko_sui (by assumption) ?_
    | refine ko_suj (by assumption) ?_
    | refine ko_suc (by assumption) ?_
    | refine ko_suw (by assumption) ?_
    | refine ko_none
    | (refine fr_X9_everybody ?_ (by assumption))
    | (refine fr_X9_fillRow_29 ?_ (by assumption))
  all_goals (intro a k q; have q2 := hP a k q; clear hP q; have q0_ := q2; clear q2)
  all_goals ((repeat' apply And.intro) <;> first | exact trivial | assumption | exact fun e => absurd e.1 (by assumption))

theorem fr_X9_bestRow_82 {P : Nat → Nat → Prop} {σ0 σ : mm_S} {a0 : Nat} {i1 : Int32} {i2 : Int32} {s0 : Int32} (hP : ∀ a k, P a k → a ≠ 211) (h : ko_K P σ0 σ) : ko Prod.snd P σ0 (f_X9_bestRow_82 a0 i1 i2 s0 σ) := by
  unfold f_X9_bestRow_82
  repeat' with_reducible first
    | assumption
    | refine ko_someV ?_
    | refine ko_someR ?_
    | refine ko_ite ?_ ?_
    | refine ko_gd (fun _ => ?_)
    | refine ko_gz ?_
    | refine ko_gb ?_
    | refine ko_gq ?_
    | refine ko_gl ?_
    | refine ko_lts ?_ (fun _ _ => ?_)
    | refine ko_ltx (fun _ => ?_)
    | refine ko_bd ?_ (fun _ _ _ => ?_)
    | refine ko_bv ?_ (fun _ _ => ?_)
    | refine ko_sui (by assumption) ?_
    | refine ko_suj (by assumption) ?_
    | refine ko_suc (by assumption) ?_
    | refine ko_suw (by assumption) ?_
    | refine ko_none
    | (refine fr_X9_fillRow ?_ (by assumption))
  all_goals (intro a k q; have q2 := hP a k q; clear hP q; have q0_ := q2; clear q2)
  all_goals ((repeat' apply And.intro) <;> first | exact trivial | assumption | exact fun e => absurd e.1 (by assumption))

theorem fr_X9_bestRow {P : Nat → Nat → Prop} {σ0 σ : mm_S} {a0 : Nat} {i1 : Int32} (hP : ∀ a k, P a k → a ≠ 211) (h : ko_K P σ0 σ) : ko Prod.snd P σ0 (f_X9_bestRow a0 i1 σ) := by
  unfold f_X9_bestRow
  repeat' with_reducible first
    | assumption
    | refine ko_someV ?_
    | refine ko_someR ?_
    | refine ko_ite ?_ ?_
    | refine ko_gd (fun _ => ?_)
    | refine ko_gz ?_
    | refine ko_gb ?_
    | refine ko_gq ?_
    | refine ko_gl ?_
    | refine ko_lts ?_ (fun _ _ => ?_)
    | refine ko_ltx (fun _ => ?_)
    | refine ko_bd ?_ (fun _ _ _ => ?_)
    | refine ko_bv ?_ (fun _ _ => ?_)
    | refine ko_sui (by assumption) ?_
    | refine ko_suj (by assumption) ?_
    | refine ko_suc (by assumption) ?_
    | refine ko_suw (by assumption) ?_
    | refine ko_none
    | (refine fr_X9_everybody ?_ (by assumption))
    | (refine fr_J6_bitCount_0f7a4 ?_ (by assumption))
    | (refine fr_X9_bestRow_82 ?_ (by assumption))
  all_goals (intro a k q; have q2 := hP a k q; clear hP q; have q0_ := q2; clear q2)
  all_goals ((repeat' apply And.intro) <;> first | exact trivial | assumption | exact fun e => absurd e.1 (by assumption))

theorem fr_X9_forOne_57 {P : Nat → Nat → Prop} {σ0 σ : mm_S} {a0 : Nat} {i1 : Int32} {i2 : Int32} {i3 : Int32} {i4 : Int32} {i5 : Int32} {i6 : Int32} {i7 : Int32} (hP : ∀ a k, P a k → a ≠ 204 ∧ ¬ (a = 999 ∧ k = 0) ∧ ¬ (a = 200 ∧ k = 3) ∧ ¬ (a = 200 ∧ k = 4) ∧ ¬ (a = 200 ∧ k = 5) ∧ ¬ (a = 201 ∧ k = 0) ∧ ¬ (a = 201 ∧ k = 1) ∧ a ≠ 202 ∧ a ≠ 203 ∧ a ≠ 205 ∧ a ≠ 206 ∧ a ≠ 207 ∧ a ≠ 208 ∧ a ≠ 209 ∧ a ≠ 210) (h : ko_K P σ0 σ) : ko Prod.snd P σ0 (f_X9_forOne_57 a0 i1 i2 i3 i4 i5 i6 i7 σ) := by
  unfold f_X9_forOne_57
  refine ko_lp (fun rec hrec v τ hτ => ?_) lpN _ _ h
  repeat' with_reducible first
    | assumption
    | refine ko_someV ?_
    | refine ko_someR ?_
    | refine ko_ite ?_ ?_
    | refine ko_gd (fun _ => ?_)
    | refine ko_gz ?_
    | refine ko_gb ?_
    | refine ko_gq ?_
    | refine ko_gl ?_
    | refine ko_lts ?_ (fun _ _ => ?_)
    | refine ko_ltx (fun _ => ?_)
    | refine ko_bd ?_ (fun _ _ _ => ?_)
    | refine ko_bv ?_ (fun _ _ => ?_)
    | refine ko_sui (by assumption) ?_
    | refine ko_suj (by assumption) ?_
    | refine ko_suc (by assumption) ?_
    | refine ko_suw (by assumption) ?_
    | refine ko_none
    | (apply hrec; assumption)
    | (refine fr_X9_walkFromNow ?_ (by assumption))
    | (refine fr_X7_passHours ?_ (by assumption))
  all_goals (intro a k q; have q2 := hP a k q; clear hP q; obtain ⟨q0_, q1_, q2_, q3_, q4_, q5_, q6_, q7_, q8_, q9_, q10_, q11_, q12_, q13_, q14_⟩ := q2)
  all_goals ((repeat' apply And.intro) <;> first | exact trivial | assumption | exact fun e => absurd e.1 (by assumption))

theorem fr_X9_forOne {P : Nat → Nat → Prop} {σ0 σ : mm_S} {a0 : Nat} {i1 : Int32} {i2 : Int32} {i3 : Int32} {i4 : Int32} (hP : ∀ a k, P a k → a ≠ 204 ∧ ¬ (a = 999 ∧ k = 0) ∧ ¬ (a = 200 ∧ k = 3) ∧ ¬ (a = 200 ∧ k = 4) ∧ ¬ (a = 200 ∧ k = 5) ∧ ¬ (a = 201 ∧ k = 0) ∧ ¬ (a = 201 ∧ k = 1) ∧ a ≠ 202 ∧ a ≠ 203 ∧ a ≠ 205 ∧ a ≠ 206 ∧ a ≠ 207 ∧ a ≠ 208 ∧ a ≠ 209 ∧ a ≠ 210) (h : ko_K P σ0 σ) : ko Prod.snd P σ0 (f_X9_forOne a0 i1 i2 i3 i4 σ) := by
  unfold f_X9_forOne
  repeat' with_reducible first
    | assumption
    | refine ko_someV ?_
    | refine ko_someR ?_
    | refine ko_ite ?_ ?_
    | refine ko_gd (fun _ => ?_)
    | refine ko_gz ?_
    | refine ko_gb ?_
    | refine ko_gq ?_
    | refine ko_gl ?_
    | refine ko_lts ?_ (fun _ _ => ?_)
    | refine ko_ltx (fun _ => ?_)
    | refine ko_bd ?_ (fun _ _ _ => ?_)
    | refine ko_bv ?_ (fun _ _ => ?_)
    | refine ko_sui (by assumption) ?_
    | refine ko_suj (by assumption) ?_
    | refine ko_suc (by assumption) ?_
    | refine ko_suw (by assumption) ?_
    | refine ko_none
    | (refine fr_X9_areUnlike ?_ (by assumption))
    | (refine fr_X2_isIn ?_ (by assumption))
    | (refine fr_X9_forOne_57 ?_ (by assumption))
  all_goals (intro a k q; have q2 := hP a k q; clear hP q; obtain ⟨q0_, q1_, q2_, q3_, q4_, q5_, q6_, q7_, q8_, q9_, q10_, q11_, q12_, q13_, q14_⟩ := q2)
  all_goals ((repeat' apply And.intro) <;> first | exact trivial | assumption | exact fun e => absurd e.1 (by assumption))

theorem fr_X9_suffice_30 {P : Nat → Nat → Prop} {σ0 σ : mm_S} {k14 : (Int32) → mm_S → Option (Int32 × mm_S)} {a0 : Nat} {i2 : Int32} {i3 : Int32} {i4 : Int32} (hP : ∀ a k, P a k → True) (hk0 : ∀ v τ, ko_K P σ0 τ → ko Prod.snd P σ0 (k14 v τ)) (h : ko_K P σ0 σ) : ko Prod.snd P σ0 (f_X9_suffice_30 k14 a0 i2 i3 i4 σ) := by
  unfold f_X9_suffice_30
  refine ko_lp (fun rec hrec v τ hτ => ?_) lpN _ _ h
  repeat' with_reducible first
    | assumption
    | refine ko_someV ?_
    | refine ko_someR ?_
    | refine ko_ite ?_ ?_
    | refine ko_gd (fun _ => ?_)
    | refine ko_gz ?_
    | refine ko_gb ?_
    | refine ko_gq ?_
    | refine ko_gl ?_
    | refine ko_lts ?_ (fun _ _ => ?_)
    | refine ko_ltx (fun _ => ?_)
    | refine ko_bd ?_ (fun _ _ _ => ?_)
    | refine ko_bv ?_ (fun _ _ => ?_)
    | refine ko_sui (by assumption) ?_
    | refine ko_suj (by assumption) ?_
    | refine ko_suc (by assumption) ?_
    | refine ko_suw (by assumption) ?_
    | refine ko_none
    | (apply hk0; assumption)
    | (apply hrec; assumption)
  all_goals (intro a k q; have q2 := hP a k q; clear hP q)
  all_goals ((repeat' apply And.intro) <;> first | exact trivial | assumption)

theorem fr_X9_suffice_14 {P : Nat → Nat → Prop} {σ0 σ : mm_S} {a0 : Nat} {i2 : Int32} {i3 : Int32} (hP : ∀ a k, P a k → ¬ (a = 201 ∧ k = 0) ∧ ¬ (a = 201 ∧ k = 1) ∧ a ≠ 207 ∧ a ≠ 208 ∧ a ≠ 204 ∧ a ≠ 209 ∧ a ≠ 210 ∧ a ≠ 202 ∧ a ≠ 205 ∧ a ≠ 203) (h : ko_K P σ0 σ) : ko Prod.snd P σ0 (f_X9_suffice_14 a0 i2 i3 σ) := by
  unfold f_X9_suffice_14
  refine ko_lp (fun rec hrec v τ hτ => ?_) lpN _ _ h
  repeat' with_reducible first
    | assumption
    | refine ko_someV ?_
    | refine ko_someR ?_
    | refine ko_ite ?_ ?_
    | refine ko_gd (fun _ => ?_)
    | refine ko_gz ?_
    | refine ko_gb ?_
    | refine ko_gq ?_
    | refine ko_gl ?_
    | refine ko_lts ?_ (fun _ _ => ?_)
    | refine ko_ltx (fun _ => ?_)
    | refine ko_bd ?_ (fun _ _ _ => ?_)
    | refine ko_bv ?_ (fun _ _ => ?_)
    | refine ko_sui (by assumption) ?_
    | refine ko_suj (by assumption) ?_
    | refine ko_suc (by assumption) ?_
    | refine ko_suw (by assumption) ?_
    | refine ko_none
    | (apply hrec; assumption)
    | (refine fr_X7_passHours ?_ (by assumption))
    | (refine fr_X9_suffice_30 ?_ (by first | exact hrec) (by assumption))
  all_goals (intro a k q; have q2 := hP a k q; clear hP q; obtain ⟨q0_, q1_, q2_, q3_, q4_, q5_, q6_, q7_, q8_, q9_⟩ := q2)
  all_goals ((repeat' apply And.intro) <;> first | exact trivial | assumption | exact fun e => absurd e.1 (by assumption))

theorem fr_X9_suffice {P : Nat → Nat → Prop} {σ0 σ : mm_S} {a0 : Nat} {i1 : Int32} {i2 : Int32} (hP : ∀ a k, P a k → ¬ (a = 200 ∧ k = 3) ∧ ¬ (a = 999 ∧ k = 0) ∧ ¬ (a = 200 ∧ k = 4) ∧ ¬ (a = 200 ∧ k = 5) ∧ ¬ (a = 201 ∧ k = 0) ∧ ¬ (a = 201 ∧ k = 1) ∧ a ≠ 202 ∧ a ≠ 203 ∧ a ≠ 204 ∧ a ≠ 205 ∧ a ≠ 206 ∧ a ≠ 207 ∧ a ≠ 208 ∧ a ≠ 209 ∧ a ≠ 210) (h : ko_K P σ0 σ) : ko Prod.snd P σ0 (f_X9_suffice a0 i1 i2 σ) := by
  unfold f_X9_suffice
  repeat' with_reducible first
    | assumption
    | refine ko_someV ?_
    | refine ko_someR ?_
    | refine ko_ite ?_ ?_
    | refine ko_gd (fun _ => ?_)
    | refine ko_gz ?_
    | refine ko_gb ?_
    | refine ko_gq ?_
    | refine ko_gl ?_
    | refine ko_lts ?_ (fun _ _ => ?_)
    | refine ko_ltx (fun _ => ?_)
    | refine ko_bd ?_ (fun _ _ _ => ?_)
    | refine ko_bv ?_ (fun _ _ => ?_)
    | refine ko_sui (by assumption) ?_
    | refine ko_suj (by assumption) ?_
    | refine ko_suc (by assumption) ?_
    | refine ko_suw (by assumption) ?_
    | refine ko_none
    | (refine fr_X9_walkFromNow ?_ (by assumption))
    | (refine fr_X9_suffice_14 ?_ (by assumption))
  all_goals (intro a k q; have q2 := hP a k q; clear hP q; obtain ⟨q0_, q1_, q2_, q3_, q4_, q5_, q6_, q7_, q8_, q9_, q10_, q11_, q12_, q13_, q14_⟩ := q2)
  all_goals ((repeat' apply And.intro) <;> first | exact trivial | assumption | exact fun e => absurd e.1 (by assumption))

theorem fr_X9_torches_28 {P : Nat → Nat → Prop} {σ0 σ : mm_S} {a0 : Nat} {i1 : Int32} {i2 : Int32} (hP : ∀ a k, P a k → ¬ (a = 200 ∧ k = 3) ∧ ¬ (a = 999 ∧ k = 0) ∧ ¬ (a = 200 ∧ k = 4) ∧ ¬ (a = 200 ∧ k = 5) ∧ ¬ (a = 201 ∧ k = 0) ∧ ¬ (a = 201 ∧ k = 1) ∧ a ≠ 202 ∧ a ≠ 203 ∧ a ≠ 204 ∧ a ≠ 205 ∧ a ≠ 206 ∧ a ≠ 207 ∧ a ≠ 208 ∧ a ≠ 209 ∧ a ≠ 210) (h : ko_K P σ0 σ) : ko Prod.snd P σ0 (f_X9_torches_28 a0 i1 i2 σ) := by
  unfold f_X9_torches_28
  refine ko_lp (fun rec hrec v τ hτ => ?_) lpN _ _ h
  repeat' with_reducible first
    | assumption
    | refine ko_someV ?_
    | refine ko_someR ?_
    | refine ko_ite ?_ ?_
    | refine ko_gd (fun _ => ?_)
    | refine ko_gz ?_
    | refine ko_gb ?_
    | refine ko_gq ?_
    | refine ko_gl ?_
    | refine ko_lts ?_ (fun _ _ => ?_)
    | refine ko_ltx (fun _ => ?_)
    | refine ko_bd ?_ (fun _ _ _ => ?_)
    | refine ko_bv ?_ (fun _ _ => ?_)
    | refine ko_sui (by assumption) ?_
    | refine ko_suj (by assumption) ?_
    | refine ko_suc (by assumption) ?_
    | refine ko_suw (by assumption) ?_
    | refine ko_none
    | (apply hrec; assumption)
    | (refine fr_X9_suffice ?_ (by assumption))
  all_goals (intro a k q; have q2 := hP a k q; clear hP q; obtain ⟨q0_, q1_, q2_, q3_, q4_, q5_, q6_, q7_, q8_, q9_, q10_, q11_, q12_, q13_, q14_⟩ := q2)
  all_goals ((repeat' apply And.intro) <;> first | exact trivial | assumption | exact fun e => absurd e.1 (by assumption))

theorem fr_X9_torches {P : Nat → Nat → Prop} {σ0 σ : mm_S} {a0 : Nat} {i1 : Int32} (hP : ∀ a k, P a k → ¬ (a = 200 ∧ k = 3) ∧ ¬ (a = 999 ∧ k = 0) ∧ ¬ (a = 200 ∧ k = 4) ∧ ¬ (a = 200 ∧ k = 5) ∧ ¬ (a = 201 ∧ k = 0) ∧ ¬ (a = 201 ∧ k = 1) ∧ a ≠ 202 ∧ a ≠ 203 ∧ a ≠ 204 ∧ a ≠ 205 ∧ a ≠ 206 ∧ a ≠ 207 ∧ a ≠ 208 ∧ a ≠ 209 ∧ a ≠ 210) (h : ko_K P σ0 σ) : ko Prod.snd P σ0 (f_X9_torches a0 i1 σ) := by
  unfold f_X9_torches
  repeat' with_reducible first
    | assumption
    | refine ko_someV ?_
    | refine ko_someR ?_
    | refine ko_ite ?_ ?_
    | refine ko_gd (fun _ => ?_)
    | refine ko_gz ?_
    | refine ko_gb ?_
    | refine ko_gq ?_
    | refine ko_gl ?_
    | refine ko_lts ?_ (fun _ _ => ?_)
    | refine ko_ltx (fun _ => ?_)
    | refine ko_bd ?_ (fun _ _ _ => ?_)
    | refine ko_bv ?_ (fun _ _ => ?_)
    | refine ko_sui (by assumption) ?_
    | refine ko_suj (by assumption) ?_
    | refine ko_suc (by assumption) ?_
    | refine ko_suw (by assumption) ?_
    | refine ko_none
    | (refine fr_X9_torches_28 ?_ (by assumption))
  all_goals (intro a k q; have q2 := hP a k q; clear hP q; obtain ⟨q0_, q1_, q2_, q3_, q4_, q5_, q6_, q7_, q8_, q9_, q10_, q11_, q12_, q13_, q14_⟩ := q2)
  all_goals ((repeat' apply And.intro) <;> first | exact trivial | assumption | exact fun e => absurd e.1 (by assumption))

theorem fr_X9_out_44 {P : Nat → Nat → Prop} {σ0 σ : mm_S} {a0 : Nat} {i1 : Int32} {i2 : Int32} {i3 : Int32} {i4 : Int32} {i5 : Int32} (hP : ∀ a k, P a k → ¬ (a = 200 ∧ k = 4) ∧ ¬ (a = 999 ∧ k = 0) ∧ ¬ (a = 200 ∧ k = 3) ∧ ¬ (a = 200 ∧ k = 5) ∧ ¬ (a = 201 ∧ k = 0) ∧ ¬ (a = 201 ∧ k = 1) ∧ a ≠ 202 ∧ a ≠ 203 ∧ a ≠ 204 ∧ a ≠ 205 ∧ a ≠ 206 ∧ a ≠ 207 ∧ a ≠ 208 ∧ a ≠ 209 ∧ a ≠ 210) (h : ko_K P σ0 σ) : ko Prod.snd P σ0 (f_X9_out_44 a0 i1 i2 i3 i4 i5 σ) := by
  unfold f_X9_out_44
  refine ko_lp (fun rec hrec v τ hτ => ?_) lpN _ _ h
  repeat' with_reducible first
    | assumption
    | refine ko_someV ?_
    | refine ko_someR ?_
    | refine ko_ite ?_ ?_
    | refine ko_gd (fun _ => ?_)
    | refine ko_gz ?_
    | refine ko_gb ?_
    | refine ko_gq ?_
    | refine ko_gl ?_
    | refine ko_lts ?_ (fun _ _ => ?_)
    | refine ko_ltx (fun _ => ?_)
    | refine ko_bd ?_ (fun _ _ _ => ?_)
    | refine ko_bv ?_ (fun _ _ => ?_)
    | refine ko_sui (by assumption) ?_
    | refine ko_suj (by assumption) ?_
    | refine ko_suc (by assumption) ?_
    | refine ko_suw (by assumption) ?_
    | refine ko_none
    | (apply hrec; assumption)
    | (refine fr_X9_walkFromNow ?_ (by assumption))
    | (refine fr_X7_passHours ?_ (by assumption))
    | (refine fr_X9_sum ?_ (by assumption))
  all_goals (intro a k q; have q2 := hP a k q; clear hP q; obtain ⟨q0_, q1_, q2_, q3_, q4_, q5_, q6_, q7_, q8_, q9_, q10_, q11_, q12_, q13_, q14_⟩ := q2)
  all_goals ((repeat' apply And.intro) <;> first | exact trivial | assumption | exact fun e => absurd e.1 (by assumption))

theorem fr_X9_out {P : Nat → Nat → Prop} {σ0 σ : mm_S} {a0 : Nat} {i1 : Int32} {i2 : Int32} (hP : ∀ a k, P a k → ¬ (a = 200 ∧ k = 4) ∧ ¬ (a = 999 ∧ k = 0) ∧ ¬ (a = 200 ∧ k = 3) ∧ ¬ (a = 200 ∧ k = 5) ∧ ¬ (a = 201 ∧ k = 0) ∧ ¬ (a = 201 ∧ k = 1) ∧ a ≠ 202 ∧ a ≠ 203 ∧ a ≠ 204 ∧ a ≠ 205 ∧ a ≠ 206 ∧ a ≠ 207 ∧ a ≠ 208 ∧ a ≠ 209 ∧ a ≠ 210) (h : ko_K P σ0 σ) : ko Prod.snd P σ0 (f_X9_out a0 i1 i2 σ) := by
  unfold f_X9_out
  repeat' with_reducible first
    | assumption
    | refine ko_someV ?_
    | refine ko_someR ?_
    | refine ko_ite ?_ ?_
    | refine ko_gd (fun _ => ?_)
    | refine ko_gz ?_
    | refine ko_gb ?_
    | refine ko_gq ?_
    | refine ko_gl ?_
    | refine ko_lts ?_ (fun _ _ => ?_)
    | refine ko_ltx (fun _ => ?_)
    | refine ko_bd ?_ (fun _ _ _ => ?_)
    | refine ko_bv ?_ (fun _ _ => ?_)
    | refine ko_sui (by assumption) ?_
    | refine ko_suj (by assumption) ?_
    | refine ko_suc (by assumption) ?_
    | refine ko_suw (by assumption) ?_
    | refine ko_none
    | (refine fr_X9_out_44 ?_ (by assumption))
  all_goals (intro a k q; have q2 := hP a k q; clear hP q; obtain ⟨q0_, q1_, q2_, q3_, q4_, q5_, q6_, q7_, q8_, q9_, q10_, q11_, q12_, q13_, q14_⟩ := q2)
  all_goals ((repeat' apply And.intro) <;> first | exact trivial | assumption | exact fun e => absurd e.1 (by assumption))

theorem fr_X9_sleeps_56 {P : Nat → Nat → Prop} {σ0 σ : mm_S} {a0 : Nat} {i2 : Int32} {i3 : Int32} {i4 : Int32} {i5 : Int32} (hP : ∀ a k, P a k → True) (h : ko_K P σ0 σ) : ko Prod.snd P σ0 (f_X9_sleeps_56 a0 i2 i3 i4 i5 σ) := by
  unfold f_X9_sleeps_56
  refine ko_lp (fun rec hrec v τ hτ => ?_) lpN _ _ h
  repeat' with_reducible first
    | assumption
    | refine ko_someV ?_
    | refine ko_someR ?_
    | refine ko_ite ?_ ?_
    | refine ko_gd (fun _ => ?_)
    | refine ko_gz ?_
    | refine ko_gb ?_
    | refine ko_gq ?_
    | refine ko_gl ?_
    | refine ko_lts ?_ (fun _ _ => ?_)
    | refine ko_ltx (fun _ => ?_)
    | refine ko_bd ?_ (fun _ _ _ => ?_)
    | refine ko_bv ?_ (fun _ _ => ?_)
    | refine ko_sui (by assumption) ?_
    | refine ko_suj (by assumption) ?_
    | refine ko_suc (by assumption) ?_
    | refine ko_suw (by assumption) ?_
    | refine ko_none
    | (apply hrec; assumption)
  all_goals (intro a k q; have q2 := hP a k q; clear hP q)
  all_goals ((repeat' apply And.intro) <;> first | exact trivial | assumption)

theorem fr_X9_sleeps {P : Nat → Nat → Prop} {σ0 σ : mm_S} {a0 : Nat} {i1 : Int32} {i2 : Int32} (hP : ∀ a k, P a k → ¬ (a = 999 ∧ k = 0) ∧ ¬ (a = 200 ∧ k = 3) ∧ ¬ (a = 200 ∧ k = 4) ∧ ¬ (a = 200 ∧ k = 5) ∧ ¬ (a = 201 ∧ k = 0) ∧ ¬ (a = 201 ∧ k = 1) ∧ a ≠ 202 ∧ a ≠ 203 ∧ a ≠ 204 ∧ a ≠ 205 ∧ a ≠ 206 ∧ a ≠ 207 ∧ a ≠ 208 ∧ a ≠ 209 ∧ a ≠ 210) (h : ko_K P σ0 σ) : ko Prod.snd P σ0 (f_X9_sleeps a0 i1 i2 σ) := by
  unfold f_X9_sleeps
  repeat' with_reducible first
    | assumption
    | refine ko_someV ?_
    | refine ko_someR ?_
    | refine ko_ite ?_ ?_
    | refine ko_gd (fun _ => ?_)
    | refine ko_gz ?_
    | refine ko_gb ?_
    | refine ko_gq ?_
    | refine ko_gl ?_
    | refine ko_lts ?_ (fun _ _ => ?_)
    | refine ko_ltx (fun _ => ?_)
    | refine ko_bd ?_ (fun _ _ _ => ?_)
    | refine ko_bv ?_ (fun _ _ => ?_)
    | refine ko_sui (by assumption) ?_
    | refine ko_suj (by assumption) ?_
    | refine ko_suc (by assumption) ?_
    | refine ko_suw (by assumption) ?_
    | refine ko_none
    | (refine fr_X9_walkFromNow ?_ (by assumption))
    | (refine fr_X7_passHours ?_ (by assumption))
    | (refine fr_X9_sleeps_56 ?_ (by assumption))
  all_goals (intro a k q; have q2 := hP a k q; clear hP q; obtain ⟨q0_, q1_, q2_, q3_, q4_, q5_, q6_, q7_, q8_, q9_, q10_, q11_, q12_, q13_, q14_⟩ := q2)
  all_goals ((repeat' apply And.intro) <;> first | exact trivial | assumption | exact fun e => absurd e.1 (by assumption))

theorem fr_X9_ring_79 {P : Nat → Nat → Prop} {σ0 σ : mm_S} {k68 : (Int32) → mm_S → Option (Int32 × mm_S)} {a0 : Nat} {i1 : Int32} {i2 : Int32} {i3 : Int32} (hP : ∀ a k, P a k → True) (hk0 : ∀ v τ, ko_K P σ0 τ → ko Prod.snd P σ0 (k68 v τ)) (h : ko_K P σ0 σ) : ko Prod.snd P σ0 (f_X9_ring_79 k68 a0 i1 i2 i3 σ) := by
  unfold f_X9_ring_79
  refine ko_lp (fun rec hrec v τ hτ => ?_) lpN _ _ h
  repeat' with_reducible first
    | assumption
    | refine ko_someV ?_
    | refine ko_someR ?_
    | refine ko_ite ?_ ?_
    | refine ko_gd (fun _ => ?_)
    | refine ko_gz ?_
    | refine ko_gb ?_
    | refine ko_gq ?_
    | refine ko_gl ?_
    | refine ko_lts ?_ (fun _ _ => ?_)
    | refine ko_ltx (fun _ => ?_)
    | refine ko_bd ?_ (fun _ _ _ => ?_)
    | refine ko_bv ?_ (fun _ _ => ?_)
    | refine ko_sui (by assumption) ?_
    | refine ko_suj (by assumption) ?_
    | refine ko_suc (by assumption) ?_
    | refine ko_suw (by assumption) ?_
    | refine ko_none
    | (apply hk0; assumption)
    | (apply hrec; assumption)
  all_goals (intro a k q; have q2 := hP a k q; clear hP q)
  all_goals ((repeat' apply And.intro) <;> first | exact trivial | assumption)

theorem fr_X9_ring_68 {P : Nat → Nat → Prop} {σ0 σ : mm_S} {a0 : Nat} {i1 : Int32} {i2 : Int32} (hP : ∀ a k, P a k → True) (h : ko_K P σ0 σ) : ko Prod.snd P σ0 (f_X9_ring_68 a0 i1 i2 σ) := by
  unfold f_X9_ring_68
  refine ko_lp (fun rec hrec v τ hτ => ?_) lpN _ _ h
  repeat' with_reducible first
    | assumption
    | refine ko_someV ?_
    | refine ko_someR ?_
    | refine ko_ite ?_ ?_
    | refine ko_gd (fun _ => ?_)
    | refine ko_gz ?_
    | refine ko_gb ?_
    | refine ko_gq ?_
    | refine ko_gl ?_
    | refine ko_lts ?_ (fun _ _ => ?_)
    | refine ko_ltx (fun _ => ?_)
    | refine ko_bd ?_ (fun _ _ _ => ?_)
    | refine ko_bv ?_ (fun _ _ => ?_)
    | refine ko_sui (by assumption) ?_
    | refine ko_suj (by assumption) ?_
    | refine ko_suc (by assumption) ?_
    | refine ko_suw (by assumption) ?_
    | refine ko_none
    | (apply hrec; assumption)
    | (refine fr_X9_ring_79 ?_ (by first | exact hrec) (by assumption))
  all_goals (intro a k q; have q2 := hP a k q; clear hP q)
  all_goals ((repeat' apply And.intro) <;> first | exact trivial | assumption)

theorem fr_X9_ring_30 {P : Nat → Nat → Prop} {σ0 σ : mm_S} {a0 : Nat} {i1 : Int32} {i2 : Int32} (hP : ∀ a k, P a k → a ≠ 213 ∧ ¬ (a = 201 ∧ k = 0) ∧ ¬ (a = 201 ∧ k = 1) ∧ a ≠ 207 ∧ a ≠ 208 ∧ a ≠ 204 ∧ a ≠ 209 ∧ a ≠ 210 ∧ a ≠ 202 ∧ a ≠ 205 ∧ a ≠ 203) (h : ko_K P σ0 σ) : ko Prod.snd P σ0 (f_X9_ring_30 a0 i1 i2 σ) := by
  unfold f_X9_ring_30
  refine ko_lp (fun rec hrec v τ hτ => ?_) lpN _ _ h
  repeat' with_reducible first
    | assumption
    | refine ko_someV ?_
    | refine ko_someR ?_
    | refine ko_ite ?_ ?_
    | refine ko_gd (fun _ => ?_)
    | refine ko_gz ?_
    | refine ko_gb ?_
    | refine ko_gq ?_
    | refine ko_gl ?_
    | refine ko_lts ?_ (fun _ _ => ?_)
    | refine ko_ltx (fun _ => ?_)
    | refine ko_bd ?_ (fun _ _ _ => ?_)
    | refine ko_bv ?_ (fun _ _ => ?_)
    | refine ko_sui (by assumption) ?_
    | refine ko_suj (by assumption) ?_
    | refine ko_suc (by assumption) ?_
    | refine ko_suw (by assumption) ?_
    | refine ko_none
    | (apply hrec; assumption)
    | (refine fr_X9_ring_68 ?_ (by assumption))
    | (refine fr_X2_figure ?_ (by assumption))
    | (refine fr_X7_passHours ?_ (by assumption))
  all_goals (intro a k q; have q2 := hP a k q; clear hP q; obtain ⟨q0_, q1_, q2_, q3_, q4_, q5_, q6_, q7_, q8_, q9_, q10_⟩ := q2)
  all_goals ((repeat' apply And.intro) <;> first | exact trivial | assumption | exact fun e => absurd e.1 (by assumption))

theorem fr_X9_ring {P : Nat → Nat → Prop} {σ0 σ : mm_S} {a0 : Nat} {i1 : Int32} (hP : ∀ a k, P a k → ¬ (a = 999 ∧ k = 0) ∧ ¬ (a = 200 ∧ k = 3) ∧ ¬ (a = 200 ∧ k = 4) ∧ ¬ (a = 200 ∧ k = 5) ∧ ¬ (a = 201 ∧ k = 0) ∧ ¬ (a = 201 ∧ k = 1) ∧ a ≠ 202 ∧ a ≠ 203 ∧ a ≠ 204 ∧ a ≠ 205 ∧ a ≠ 206 ∧ a ≠ 213 ∧ a ≠ 207 ∧ a ≠ 208 ∧ a ≠ 209 ∧ a ≠ 210) (h : ko_K P σ0 σ) : ko Prod.snd P σ0 (f_X9_ring a0 i1 σ) := by
  unfold f_X9_ring
  repeat' with_reducible first
    | assumption
    | refine ko_someV ?_
    | refine ko_someR ?_
    | refine ko_ite ?_ ?_
    | refine ko_gd (fun _ => ?_)
    | refine ko_gz ?_
    | refine ko_gb ?_
    | refine ko_gq ?_
    | refine ko_gl ?_
    | refine ko_lts ?_ (fun _ _ => ?_)
    | refine ko_ltx (fun _ => ?_)
    | refine ko_bd ?_ (fun _ _ _ => ?_)
    | refine ko_bv ?_ (fun _ _ => ?_)
    | refine ko_sui (by assumption) ?_
    | refine ko_suj (by assumption) ?_
    | refine ko_suc (by assumption) ?_
    | refine ko_suw (by assumption) ?_
    | refine ko_none
    | (refine fr_X9_walkFromNow ?_ (by assumption))
    | (refine fr_X9_ring_30 ?_ (by assumption))
  all_goals (intro a k q; have q2 := hP a k q; clear hP q; obtain ⟨q0_, q1_, q2_, q3_, q4_, q5_, q6_, q7_, q8_, q9_, q10_, q11_, q12_, q13_, q14_, q15_⟩ := q2)
  all_goals ((repeat' apply And.intro) <;> first | exact trivial | assumption | exact fun e => absurd e.1 (by assumption))

theorem fr_X9_pennies_64 {P : Nat → Nat → Prop} {σ0 σ : mm_S} {a0 : Nat} {i1 : Int32} {i2 : Int32} {a3 : Nat} {i4 : Int32} {i5 : Int32} {i6 : Int32} {i7 : Int32} {i8 : Int32} (hP : ∀ a k, P a k → True) (h : ko_K P σ0 σ) : ko Prod.snd P σ0 (f_X9_pennies_64 a0 i1 i2 a3 i4 i5 i6 i7 i8 σ) := by
  unfold f_X9_pennies_64
  refine ko_lp (fun rec hrec v τ hτ => ?_) lpN _ _ h
  repeat' with_reducible first
    | assumption
    | refine ko_someV ?_
    | refine ko_someR ?_
    | refine ko_ite ?_ ?_
    | refine ko_gd (fun _ => ?_)
    | refine ko_gz ?_
    | refine ko_gb ?_
    | refine ko_gq ?_
    | refine ko_gl ?_
    | refine ko_lts ?_ (fun _ _ => ?_)
    | refine ko_ltx (fun _ => ?_)
    | refine ko_bd ?_ (fun _ _ _ => ?_)
    | refine ko_bv ?_ (fun _ _ => ?_)
    | refine ko_sui (by assumption) ?_
    | refine ko_suj (by assumption) ?_
    | refine ko_suc (by assumption) ?_
    | refine ko_suw (by assumption) ?_
    | refine ko_none
    | (apply hrec; assumption)
  all_goals (intro a k q; have q2 := hP a k q; clear hP q)
  all_goals ((repeat' apply And.intro) <;> first | exact trivial | assumption)

theorem fr_X9_pennies {P : Nat → Nat → Prop} {σ0 σ : mm_S} {a0 : Nat} {i1 : Int32} {i2 : Int32} (hP : ∀ a k, P a k → True) (h : ko_K P σ0 σ) : ko Prod.snd P σ0 (f_X9_pennies a0 i1 i2 σ) := by
  unfold f_X9_pennies
  repeat' with_reducible first
    | assumption
    | refine ko_someV ?_
    | refine ko_someR ?_
    | refine ko_ite ?_ ?_
    | refine ko_gd (fun _ => ?_)
    | refine ko_gz ?_
    | refine ko_gb ?_
    | refine ko_gq ?_
    | refine ko_gl ?_
    | refine ko_lts ?_ (fun _ _ => ?_)
    | refine ko_ltx (fun _ => ?_)
    | refine ko_bd ?_ (fun _ _ _ => ?_)
    | refine ko_bv ?_ (fun _ _ => ?_)
    | refine ko_sui (by assumption) ?_
    | refine ko_suj (by assumption) ?_
    | refine ko_suc (by assumption) ?_
    | refine ko_suw (by assumption) ?_
    | refine ko_none
    | (refine fr_X9_isLodger ?_ (by assumption))
    | (refine fr_X9_sum ?_ (by assumption))
    | (refine fr_X9_pennies_64 ?_ (by assumption))
  all_goals (intro a k q; have q2 := hP a k q; clear hP q)
  all_goals ((repeat' apply And.intro) <;> first | exact trivial | assumption)

theorem fr_X9_gameAt {P : Nat → Nat → Prop} {σ0 σ : mm_S} {i0 : Int32} {i1 : Int32} (hP : ∀ a k, P a k → True) (h : ko_K P σ0 σ) : ko Prod.snd P σ0 (f_X9_gameAt i0 i1 σ) := by
  unfold f_X9_gameAt
  repeat' with_reducible first
    | assumption
    | refine ko_someV ?_
    | refine ko_someR ?_
    | refine ko_ite ?_ ?_
    | refine ko_gd (fun _ => ?_)
    | refine ko_gz ?_
    | refine ko_gb ?_
    | refine ko_gq ?_
    | refine ko_gl ?_
    | refine ko_lts ?_ (fun _ _ => ?_)
    | refine ko_ltx (fun _ => ?_)
    | refine ko_bd ?_ (fun _ _ _ => ?_)
    | refine ko_bv ?_ (fun _ _ => ?_)
    | refine ko_sui (by assumption) ?_
    | refine ko_suj (by assumption) ?_
    | refine ko_suc (by assumption) ?_
    | refine ko_suw (by assumption) ?_
    | refine ko_none
  all_goals (intro a k q; have q2 := hP a k q; clear hP q)
  all_goals ((repeat' apply And.intro) <;> first | exact trivial | assumption)

theorem fr_X9_playAll_21 {P : Nat → Nat → Prop} {σ0 σ : mm_S} {k3 : (Int32) → mm_S → Option (mm_S)} {a0 : Nat} {i1 : Int32} {i2 : Int32} {i3 : Int32} {i4 : Int32} {i5 : Int32} (hP : ∀ a k, P a k → a ≠ 206 ∧ a ≠ 212 ∧ ¬ (a = 999 ∧ k = 0) ∧ ¬ (a = 200 ∧ k = 3) ∧ ¬ (a = 200 ∧ k = 4) ∧ ¬ (a = 200 ∧ k = 5) ∧ ¬ (a = 201 ∧ k = 0) ∧ ¬ (a = 201 ∧ k = 1) ∧ a ≠ 202 ∧ a ≠ 203 ∧ a ≠ 204 ∧ a ≠ 205 ∧ a ≠ 207 ∧ a ≠ 208 ∧ a ≠ 209 ∧ a ≠ 210) (hk0 : ∀ v τ, ko_K P σ0 τ → ko id P σ0 (k3 v τ)) (h : ko_K P σ0 σ) : ko id P σ0 (f_X9_playAll_21 k3 a0 i1 i2 i3 i4 i5 σ) := by
  unfold f_X9_playAll_21
  refine ko_lp (fun rec hrec v τ hτ => ?_) lpN _ _ h
  repeat' with_reducible first
    | assumption
    | refine ko_someV ?_
    | refine ko_someR ?_
    | refine ko_ite ?_ ?_
    | refine ko_gd (fun _ => ?_)
    | refine ko_gz ?_
    | refine ko_gb ?_
    | refine ko_gq ?_
    | refine ko_gl ?_
    | refine ko_lts ?_ (fun _ _ => ?_)
    | refine ko_ltx (fun _ => ?_)
    | refine ko_bd ?_ (fun _ _ _ => ?_)
    | refine ko_bv ?_ (fun _ _ => ?_)
    | refine ko_sui (by assumption) ?_
    | refine ko_suj (by assumption) ?_
    | refine ko_suc (by assumption) ?_
    | refine ko_suw (by assumption) ?_
    | refine ko_none
    | (apply hk0; assumption)
    | (apply hrec; assumption)
    | (refine fr_X9_walkFromNow ?_ (by assumption))
    | (refine fr_X7_passHours ?_ (by assumption))
    | (refine fr_X9_gameAt ?_ (by assumption))
  all_goals (intro a k q; have q2 := hP a k q; clear hP q; obtain ⟨q0_, q1_, q2_, q3_, q4_, q5_, q6_, q7_, q8_, q9_, q10_, q11_, q12_, q13_, q14_, q15_⟩ := q2)
  all_goals ((repeat' apply And.intro) <;> first | exact trivial | assumption | exact fun e => absurd e.1 (by assumption))

theorem fr_X9_playAll_3 {P : Nat → Nat → Prop} {σ0 σ : mm_S} {a0 : Nat} {i1 : Int32} {i2 : Int32} {i3 : Int32} {i4 : Int32} (hP : ∀ a k, P a k → a ≠ 206 ∧ a ≠ 212 ∧ ¬ (a = 999 ∧ k = 0) ∧ ¬ (a = 200 ∧ k = 3) ∧ ¬ (a = 200 ∧ k = 4) ∧ ¬ (a = 200 ∧ k = 5) ∧ ¬ (a = 201 ∧ k = 0) ∧ ¬ (a = 201 ∧ k = 1) ∧ a ≠ 202 ∧ a ≠ 203 ∧ a ≠ 204 ∧ a ≠ 205 ∧ a ≠ 207 ∧ a ≠ 208 ∧ a ≠ 209 ∧ a ≠ 210) (h : ko_K P σ0 σ) : ko id P σ0 (f_X9_playAll_3 a0 i1 i2 i3 i4 σ) := by
  unfold f_X9_playAll_3
  refine ko_lp (fun rec hrec v τ hτ => ?_) lpN _ _ h
  repeat' with_reducible first
    | assumption
    | refine ko_someV ?_
    | refine ko_someR ?_
    | refine ko_ite ?_ ?_
    | refine ko_gd (fun _ => ?_)
    | refine ko_gz ?_
    | refine ko_gb ?_
    | refine ko_gq ?_
    | refine ko_gl ?_
    | refine ko_lts ?_ (fun _ _ => ?_)
    | refine ko_ltx (fun _ => ?_)
    | refine ko_bd ?_ (fun _ _ _ => ?_)
    | refine ko_bv ?_ (fun _ _ => ?_)
    | refine ko_sui (by assumption) ?_
    | refine ko_suj (by assumption) ?_
    | refine ko_suc (by assumption) ?_
    | refine ko_suw (by assumption) ?_
    | refine ko_none
    | (apply hrec; assumption)
    | (refine fr_X9_playAll_21 ?_ (by first | exact hrec) (by assumption))
  all_goals (intro a k q; have q2 := hP a k q; clear hP q; obtain ⟨q0_, q1_, q2_, q3_, q4_, q5_, q6_, q7_, q8_, q9_, q10_, q11_, q12_, q13_, q14_, q15_⟩ := q2)
  all_goals ((repeat' apply And.intro) <;> first | exact trivial | assumption | exact fun e => absurd e.1 (by assumption))

theorem fr_X9_playAll {P : Nat → Nat → Prop} {σ0 σ : mm_S} {a0 : Nat} {i1 : Int32} {i2 : Int32} {i3 : Int32} (hP : ∀ a k, P a k → a ≠ 206 ∧ a ≠ 212 ∧ ¬ (a = 999 ∧ k = 0) ∧ ¬ (a = 200 ∧ k = 3) ∧ ¬ (a = 200 ∧ k = 4) ∧ ¬ (a = 200 ∧ k = 5) ∧ ¬ (a = 201 ∧ k = 0) ∧ ¬ (a = 201 ∧ k = 1) ∧ a ≠ 202 ∧ a ≠ 203 ∧ a ≠ 204 ∧ a ≠ 205 ∧ a ≠ 207 ∧ a ≠ 208 ∧ a ≠ 209 ∧ a ≠ 210) (h : ko_K P σ0 σ) : ko id P σ0 (f_X9_playAll a0 i1 i2 i3 σ) := by
  unfold f_X9_playAll
  repeat' with_reducible first
    | assumption
    | refine ko_someV ?_
    | refine ko_someR ?_
    | refine ko_ite ?_ ?_
    | refine ko_gd (fun _ => ?_)
    | refine ko_gz ?_
    | refine ko_gb ?_
    | refine ko_gq ?_
    | refine ko_gl ?_
    | refine ko_lts ?_ (fun _ _ => ?_)
    | refine ko_ltx (fun _ => ?_)
    | refine ko_bd ?_ (fun _ _ _ => ?_)
    | refine ko_bv ?_ (fun _ _ => ?_)
    | refine ko_sui (by assumption) ?_
    | refine ko_suj (by assumption) ?_
    | refine ko_suc (by assumption) ?_
    | refine ko_suw (by assumption) ?_
    | refine ko_none
    | (refine fr_X9_playAll_3 ?_ (by assumption))
  all_goals (intro a k q; have q2 := hP a k q; clear hP q; obtain ⟨q0_, q1_, q2_, q3_, q4_, q5_, q6_, q7_, q8_, q9_, q10_, q11_, q12_, q13_, q14_, q15_⟩ := q2)
  all_goals ((repeat' apply And.intro) <;> first | exact trivial | assumption | exact fun e => absurd e.1 (by assumption))

theorem fr_X9_isSettled_52 {P : Nat → Nat → Prop} {σ0 σ : mm_S} {k3 : (Int32) → mm_S → Option (Int32 × mm_S)} {a0 : Nat} {i1 : Int32} {i2 : Int32} {i3 : Int32} {i4 : Int32} {i5 : Int32} (hP : ∀ a k, P a k → True) (hk0 : ∀ v τ, ko_K P σ0 τ → ko Prod.snd P σ0 (k3 v τ)) (h : ko_K P σ0 σ) : ko Prod.snd P σ0 (f_X9_isSettled_52 k3 a0 i1 i2 i3 i4 i5 σ) := by
  unfold f_X9_isSettled_52
  repeat' with_reducible first
    | assumption
    | refine ko_someV ?_
    | refine ko_someR ?_
    | refine ko_ite ?_ ?_
    | refine ko_gd (fun _ => ?_)
    | refine ko_gz ?_
    | refine ko_gb ?_
    | refine ko_gq ?_
    | refine ko_gl ?_
    | refine ko_lts ?_ (fun _ _ => ?_)
    | refine ko_ltx (fun _ => ?_)
    | refine ko_bd ?_ (fun _ _ _ => ?_)
    | refine ko_bv ?_ (fun _ _ => ?_)
    | refine ko_sui (by assumption) ?_
    | refine ko_suj (by assumption) ?_
    | refine ko_suc (by assumption) ?_
    | refine ko_suw (by assumption) ?_
    | refine ko_none
    | (apply hk0; assumption)
    | (refine fr_X9_gameAt ?_ (by assumption))
  all_goals (intro a k q; have q2 := hP a k q; clear hP q)
  all_goals ((repeat' apply And.intro) <;> first | exact trivial | assumption)

theorem fr_X9_isSettled_3 {P : Nat → Nat → Prop} {σ0 σ : mm_S} {a0 : Nat} {i1 : Int32} {i2 : Int32} {i3 : Int32} {i4 : Int32} {i5 : Int32} (hP : ∀ a k, P a k → True) (h : ko_K P σ0 σ) : ko Prod.snd P σ0 (f_X9_isSettled_3 a0 i1 i2 i3 i4 i5 σ) := by
  unfold f_X9_isSettled_3
  refine ko_lp (fun rec hrec v τ hτ => ?_) lpN _ _ h
  repeat' with_reducible first
    | assumption
    | refine ko_someV ?_
    | refine ko_someR ?_
    | refine ko_ite ?_ ?_
    | refine ko_gd (fun _ => ?_)
    | refine ko_gz ?_
    | refine ko_gb ?_
    | refine ko_gq ?_
    | refine ko_gl ?_
    | refine ko_lts ?_ (fun _ _ => ?_)
    | refine ko_ltx (fun _ => ?_)
    | refine ko_bd ?_ (fun _ _ _ => ?_)
    | refine ko_bv ?_ (fun _ _ => ?_)
    | refine ko_sui (by assumption) ?_
    | refine ko_suj (by assumption) ?_
    | refine ko_suc (by assumption) ?_
    | refine ko_suw (by assumption) ?_
    | refine ko_none
    | (apply hrec; assumption)
    | (refine fr_X9_isSettled_52 ?_ (by first | exact hrec) (by assumption))
    | (refine fr_X9_gameAt ?_ (by assumption))
  all_goals (intro a k q; have q2 := hP a k q; clear hP q)
  all_goals ((repeat' apply And.intro) <;> first | exact trivial | assumption)

theorem fr_X9_isSettled {P : Nat → Nat → Prop} {σ0 σ : mm_S} {a0 : Nat} {i1 : Int32} {i2 : Int32} {i3 : Int32} {i4 : Int32} (hP : ∀ a k, P a k → True) (h : ko_K P σ0 σ) : ko Prod.snd P σ0 (f_X9_isSettled a0 i1 i2 i3 i4 σ) := by
  unfold f_X9_isSettled
  repeat' with_reducible first
    | assumption
    | refine ko_someV ?_
    | refine ko_someR ?_
    | refine ko_ite ?_ ?_
    | refine ko_gd (fun _ => ?_)
    | refine ko_gz ?_
    | refine ko_gb ?_
    | refine ko_gq ?_
    | refine ko_gl ?_
    | refine ko_lts ?_ (fun _ _ => ?_)
    | refine ko_ltx (fun _ => ?_)
    | refine ko_bd ?_ (fun _ _ _ => ?_)
    | refine ko_bv ?_ (fun _ _ => ?_)
    | refine ko_sui (by assumption) ?_
    | refine ko_suj (by assumption) ?_
    | refine ko_suc (by assumption) ?_
    | refine ko_suw (by assumption) ?_
    | refine ko_none
    | (refine fr_X9_isSettled_3 ?_ (by assumption))
  all_goals (intro a k q; have q2 := hP a k q; clear hP q)
  all_goals ((repeat' apply And.intro) <;> first | exact trivial | assumption)

theorem fr_X9_rests_72 {P : Nat → Nat → Prop} {σ0 σ : mm_S} {k54 : (Int32 × Int32 × Int32 × Int32) → mm_S → Option (Int32 × mm_S)} {a0 : Nat} {i1 : Int32} {i2 : Int32} {i4 : Int32} {i5 : Int32} {i6 : Int32} {i7 : Int32} {i8 : Int32} {i9 : Int32} (hP : ∀ a k, P a k → True) (hk0 : ∀ v τ, ko_K P σ0 τ → ko Prod.snd P σ0 (k54 v τ)) (h : ko_K P σ0 σ) : ko Prod.snd P σ0 (f_X9_rests_72 k54 a0 i1 i2 i4 i5 i6 i7 i8 i9 σ) := by
  unfold f_X9_rests_72
  refine ko_lp (fun rec hrec v τ hτ => ?_) lpN _ _ h
  repeat' with_reducible first
    | assumption
    | refine ko_someV ?_
    | refine ko_someR ?_
    | refine ko_ite ?_ ?_
    | refine ko_gd (fun _ => ?_)
    | refine ko_gz ?_
    | refine ko_gb ?_
    | refine ko_gq ?_
    | refine ko_gl ?_
    | refine ko_lts ?_ (fun _ _ => ?_)
    | refine ko_ltx (fun _ => ?_)
    | refine ko_bd ?_ (fun _ _ _ => ?_)
    | refine ko_bv ?_ (fun _ _ => ?_)
    | refine ko_sui (by assumption) ?_
    | refine ko_suj (by assumption) ?_
    | refine ko_suc (by assumption) ?_
    | refine ko_suw (by assumption) ?_
    | refine ko_none
    | (apply hk0; assumption)
    | (apply hrec; assumption)
    | (refine fr_X9_isSettled ?_ (by assumption))
  all_goals (intro a k q; have q2 := hP a k q; clear hP q)
  all_goals ((repeat' apply And.intro) <;> first | exact trivial | assumption)

theorem fr_X9_rests_54 {P : Nat → Nat → Prop} {σ0 σ : mm_S} {a0 : Nat} {i1 : Int32} {i2 : Int32} {i4 : Int32} {i5 : Int32} {i6 : Int32} {i7 : Int32} {i8 : Int32} (hP : ∀ a k, P a k → True) (h : ko_K P σ0 σ) : ko Prod.snd P σ0 (f_X9_rests_54 a0 i1 i2 i4 i5 i6 i7 i8 σ) := by
  unfold f_X9_rests_54
  refine ko_lp (fun rec hrec v τ hτ => ?_) lpN _ _ h
  repeat' with_reducible first
    | assumption
    | refine ko_someV ?_
    | refine ko_someR ?_
    | refine ko_ite ?_ ?_
    | refine ko_gd (fun _ => ?_)
    | refine ko_gz ?_
    | refine ko_gb ?_
    | refine ko_gq ?_
    | refine ko_gl ?_
    | refine ko_lts ?_ (fun _ _ => ?_)
    | refine ko_ltx (fun _ => ?_)
    | refine ko_bd ?_ (fun _ _ _ => ?_)
    | refine ko_bv ?_ (fun _ _ => ?_)
    | refine ko_sui (by assumption) ?_
    | refine ko_suj (by assumption) ?_
    | refine ko_suc (by assumption) ?_
    | refine ko_suw (by assumption) ?_
    | refine ko_none
    | (apply hrec; assumption)
    | (refine fr_X9_rests_72 ?_ (by first | exact hrec) (by assumption))
  all_goals (intro a k q; have q2 := hP a k q; clear hP q)
  all_goals ((repeat' apply And.intro) <;> first | exact trivial | assumption)

theorem fr_X9_rests {P : Nat → Nat → Prop} {σ0 σ : mm_S} {a0 : Nat} {i1 : Int32} {i2 : Int32} {i3 : Int32} {i4 : Int32} (hP : ∀ a k, P a k → a ≠ 206 ∧ a ≠ 212 ∧ ¬ (a = 999 ∧ k = 0) ∧ ¬ (a = 200 ∧ k = 3) ∧ ¬ (a = 200 ∧ k = 4) ∧ ¬ (a = 200 ∧ k = 5) ∧ ¬ (a = 201 ∧ k = 0) ∧ ¬ (a = 201 ∧ k = 1) ∧ a ≠ 202 ∧ a ≠ 203 ∧ a ≠ 204 ∧ a ≠ 205 ∧ a ≠ 207 ∧ a ≠ 208 ∧ a ≠ 209 ∧ a ≠ 210) (h : ko_K P σ0 σ) : ko Prod.snd P σ0 (f_X9_rests a0 i1 i2 i3 i4 σ) := by
  unfold f_X9_rests
  repeat' with_reducible first
    | assumption
    | refine ko_someV ?_
    | refine ko_someR ?_
    | refine ko_ite ?_ ?_
    | refine ko_gd (fun _ => ?_)
    | refine ko_gz ?_
    | refine ko_gb ?_
    | refine ko_gq ?_
    | refine ko_gl ?_
    | refine ko_lts ?_ (fun _ _ => ?_)
    | refine ko_ltx (fun _ => ?_)
    | refine ko_bd ?_ (fun _ _ _ => ?_)
    | refine ko_bv ?_ (fun _ _ => ?_)
    | refine ko_sui (by assumption) ?_
    | refine ko_suj (by assumption) ?_
    | refine ko_suc (by assumption) ?_
    | refine ko_suw (by assumption) ?_
    | refine ko_none
    | (refine fr_X9_areUnlike ?_ (by assumption))
    | (refine fr_X9_playAll ?_ (by assumption))
    | (refine fr_X9_rests_54 ?_ (by assumption))
  all_goals (intro a k q; have q2 := hP a k q; clear hP q; obtain ⟨q0_, q1_, q2_, q3_, q4_, q5_, q6_, q7_, q8_, q9_, q10_, q11_, q12_, q13_, q14_, q15_⟩ := q2)
  all_goals ((repeat' apply And.intro) <;> first | exact trivial | assumption | exact fun e => absurd e.1 (by assumption))

theorem fr_X9_stays_50 {P : Nat → Nat → Prop} {σ0 σ : mm_S} {a0 : Nat} {i2 : Int32} {i3 : Int32} (hP : ∀ a k, P a k → ¬ (a = 201 ∧ k = 0) ∧ ¬ (a = 201 ∧ k = 1) ∧ a ≠ 207 ∧ a ≠ 208 ∧ a ≠ 204 ∧ a ≠ 209 ∧ a ≠ 210 ∧ a ≠ 202 ∧ a ≠ 205 ∧ a ≠ 203) (h : ko_K P σ0 σ) : ko Prod.snd P σ0 (f_X9_stays_50 a0 i2 i3 σ) := by
  unfold f_X9_stays_50
  refine ko_lp (fun rec hrec v τ hτ => ?_) lpN _ _ h
  repeat' with_reducible first
    | assumption
    | refine ko_someV ?_
    | refine ko_someR ?_
    | refine ko_ite ?_ ?_
    | refine ko_gd (fun _ => ?_)
    | refine ko_gz ?_
    | refine ko_gb ?_
    | refine ko_gq ?_
    | refine ko_gl ?_
    | refine ko_lts ?_ (fun _ _ => ?_)
    | refine ko_ltx (fun _ => ?_)
    | refine ko_bd ?_ (fun _ _ _ => ?_)
    | refine ko_bv ?_ (fun _ _ => ?_)
    | refine ko_sui (by assumption) ?_
    | refine ko_suj (by assumption) ?_
    | refine ko_suc (by assumption) ?_
    | refine ko_suw (by assumption) ?_
    | refine ko_none
    | (apply hrec; assumption)
    | (refine fr_X7_passHours ?_ (by assumption))
  all_goals (intro a k q; have q2 := hP a k q; clear hP q; obtain ⟨q0_, q1_, q2_, q3_, q4_, q5_, q6_, q7_, q8_, q9_⟩ := q2)
  all_goals ((repeat' apply And.intro) <;> first | exact trivial | assumption | exact fun e => absurd e.1 (by assumption))

theorem fr_X9_stays {P : Nat → Nat → Prop} {σ0 σ : mm_S} {a0 : Nat} {i1 : Int32} (hP : ∀ a k, P a k → ¬ (a = 999 ∧ k = 0) ∧ ¬ (a = 200 ∧ k = 3) ∧ ¬ (a = 200 ∧ k = 4) ∧ ¬ (a = 200 ∧ k = 5) ∧ ¬ (a = 201 ∧ k = 0) ∧ ¬ (a = 201 ∧ k = 1) ∧ a ≠ 202 ∧ a ≠ 203 ∧ a ≠ 204 ∧ a ≠ 205 ∧ a ≠ 206 ∧ a ≠ 207 ∧ a ≠ 208 ∧ a ≠ 209 ∧ a ≠ 210) (h : ko_K P σ0 σ) : ko Prod.snd P σ0 (f_X9_stays a0 i1 σ) := by
  unfold f_X9_stays
  repeat' with_reducible first
    | assumption
    | refine ko_someV ?_
    | refine ko_someR ?_
    | refine ko_ite ?_ ?_
    | refine ko_gd (fun _ => ?_)
    | refine ko_gz ?_
    | refine ko_gb ?_
    | refine ko_gq ?_
    | refine ko_gl ?_
    | refine ko_lts ?_ (fun _ _ => ?_)
    | refine ko_ltx (fun _ => ?_)
    | refine ko_bd ?_ (fun _ _ _ => ?_)
    | refine ko_bv ?_ (fun _ _ => ?_)
    | refine ko_sui (by assumption) ?_
    | refine ko_suj (by assumption) ?_
    | refine ko_suc (by assumption) ?_
    | refine ko_suw (by assumption) ?_
    | refine ko_none
    | (refine fr_X9_walkFromNow ?_ (by assumption))
    | (refine fr_X7_passHours ?_ (by assumption))
    | (refine fr_X9_stays_50 ?_ (by assumption))
  all_goals (intro a k q; have q2 := hP a k q; clear hP q; obtain ⟨q0_, q1_, q2_, q3_, q4_, q5_, q6_, q7_, q8_, q9_, q10_, q11_, q12_, q13_, q14_⟩ := q2)
  all_goals ((repeat' apply And.intro) <;> first | exact trivial | assumption | exact fun e => absurd e.1 (by assumption))

theorem fr_X9_note {P : Nat → Nat → Prop} {σ0 σ : mm_S} {a0 : Nat} {i1 : Int32} {i2 : Int32} {i3 : Int32} (hP : ∀ a k, P a k → ¬ (a = 36 ∧ k = 0) ∧ a ≠ 37 ∧ a ≠ 38 ∧ a ≠ 39) (h : ko_K P σ0 σ) : ko Prod.snd P σ0 (f_X9_note a0 i1 i2 i3 σ) := by
  unfold f_X9_note
  repeat' with_reducible first
    | assumption
    | refine ko_someV ?_
    | refine ko_someR ?_
    | refine ko_ite ?_ ?_
    | refine ko_gd (fun _ => ?_)
    | refine ko_gz ?_
    | refine ko_gb ?_
    | refine ko_gq ?_
    | refine ko_gl ?_
    | refine ko_lts ?_ (fun _ _ => ?_)
    | refine ko_ltx (fun _ => ?_)
    | refine ko_bd ?_ (fun _ _ _ => ?_)
    | refine ko_bv ?_ (fun _ _ => ?_)
    | refine ko_sui (by assumption) ?_
    | refine ko_suj (by assumption) ?_
    | refine ko_suc (by assumption) ?_
    | refine ko_suw (by assumption) ?_
    | refine ko_none
    | (refine fr_X9_isLodger ?_ (by assumption))
    | (refine fr_X3_add ?_ (by assumption))
  all_goals (intro a k q; have q2 := hP a k q; clear hP q; obtain ⟨q0_, q1_, q2_, q3_⟩ := q2)
  all_goals ((repeat' apply And.intro) <;> first | exact trivial | assumption | exact fun e => absurd e.1 (by assumption))

theorem fr_X9_fittingRules_33 {P : Nat → Nat → Prop} {σ0 σ : mm_S} {k4 : (Int32 × Int32) → mm_S → Option (Int32 × mm_S)} {a0 : Nat} {i1 : Int32} {i2 : Int32} {i3 : Int32} {i4 : Int32} (hP : ∀ a k, P a k → a ≠ 213 ∧ ¬ (a = 201 ∧ k = 0) ∧ ¬ (a = 201 ∧ k = 1) ∧ a ≠ 207 ∧ a ≠ 208 ∧ a ≠ 204 ∧ a ≠ 209 ∧ a ≠ 210 ∧ a ≠ 202 ∧ a ≠ 205 ∧ a ≠ 203) (hk0 : ∀ v τ, ko_K P σ0 τ → ko Prod.snd P σ0 (k4 v τ)) (h : ko_K P σ0 σ) : ko Prod.snd P σ0 (f_X9_fittingRules_33 k4 a0 i1 i2 i3 i4 σ) := by
  unfold f_X9_fittingRules_33
  refine ko_lp (fun rec hrec v τ hτ => ?_) lpN _ _ h
  repeat' with_reducible first
    | assumption
    | refine ko_someV ?_
    | refine ko_someR ?_
    | refine ko_ite ?_ ?_
    | refine ko_gd (fun _ => ?_)
    | refine ko_gz ?_
    | refine ko_gb ?_
    | refine ko_gq ?_
    | refine ko_gl ?_
    | refine ko_lts ?_ (fun _ _ => ?_)
    | refine ko_ltx (fun _ => ?_)
    | refine ko_bd ?_ (fun _ _ _ => ?_)
    | refine ko_bv ?_ (fun _ _ => ?_)
    | refine ko_sui (by assumption) ?_
    | refine ko_suj (by assumption) ?_
    | refine ko_suc (by assumption) ?_
    | refine ko_suw (by assumption) ?_
    | refine ko_none
    | (apply hk0; assumption)
    | (apply hrec; assumption)
    | (refine fr_X3_areSo ?_ (by assumption))
    | (refine fr_X7_passHours ?_ (by assumption))
  all_goals (intro a k q; have q2 := hP a k q; clear hP q; obtain ⟨q0_, q1_, q2_, q3_, q4_, q5_, q6_, q7_, q8_, q9_, q10_⟩ := q2)
  all_goals ((repeat' apply And.intro) <;> first | exact trivial | assumption | exact fun e => absurd e.1 (by assumption))

theorem fr_X9_fittingRules_4 {P : Nat → Nat → Prop} {σ0 σ : mm_S} {a0 : Nat} {i1 : Int32} {i2 : Int32} (hP : ∀ a k, P a k → ¬ (a = 201 ∧ k = 0) ∧ ¬ (a = 201 ∧ k = 1) ∧ a ≠ 202 ∧ a ≠ 203 ∧ a ≠ 204 ∧ a ≠ 205 ∧ ¬ (a = 999 ∧ k = 0) ∧ ¬ (a = 200 ∧ k = 3) ∧ ¬ (a = 200 ∧ k = 4) ∧ ¬ (a = 200 ∧ k = 5) ∧ a ≠ 206 ∧ a ≠ 213 ∧ a ≠ 207 ∧ a ≠ 208 ∧ a ≠ 209 ∧ a ≠ 210) (h : ko_K P σ0 σ) : ko Prod.snd P σ0 (f_X9_fittingRules_4 a0 i1 i2 σ) := by
  unfold f_X9_fittingRules_4
  refine ko_lp (fun rec hrec v τ hτ => ?_) lpN _ _ h
  repeat' with_reducible first
    | assumption
    | refine ko_someV ?_
    | refine ko_someR ?_
    | refine ko_ite ?_ ?_
    | refine ko_gd (fun _ => ?_)
    | refine ko_gz ?_
    | refine ko_gb ?_
    | refine ko_gq ?_
    | refine ko_gl ?_
    | refine ko_lts ?_ (fun _ _ => ?_)
    | refine ko_ltx (fun _ => ?_)
    | refine ko_bd ?_ (fun _ _ _ => ?_)
    | refine ko_bv ?_ (fun _ _ => ?_)
    | refine ko_sui (by assumption) ?_
    | refine ko_suj (by assumption) ?_
    | refine ko_suc (by assumption) ?_
    | refine ko_suw (by assumption) ?_
    | refine ko_none
    | (apply hrec; assumption)
    | (refine fr_X7_beginAsTold ?_ (by assumption))
    | (refine fr_X9_fittingRules_33 ?_ (by first | exact hrec) (by assumption))
  all_goals (intro a k q; have q2 := hP a k q; clear hP q; obtain ⟨q0_, q1_, q2_, q3_, q4_, q5_, q6_, q7_, q8_, q9_, q10_, q11_, q12_, q13_, q14_, q15_⟩ := q2)
  all_goals ((repeat' apply And.intro) <;> first | exact trivial | assumption | exact fun e => absurd e.1 (by assumption))

theorem fr_X9_fittingRules {P : Nat → Nat → Prop} {σ0 σ : mm_S} {a0 : Nat} (hP : ∀ a k, P a k → ¬ (a = 201 ∧ k = 0) ∧ ¬ (a = 201 ∧ k = 1) ∧ a ≠ 202 ∧ a ≠ 203 ∧ a ≠ 204 ∧ a ≠ 205 ∧ ¬ (a = 999 ∧ k = 0) ∧ ¬ (a = 200 ∧ k = 3) ∧ ¬ (a = 200 ∧ k = 4) ∧ ¬ (a = 200 ∧ k = 5) ∧ a ≠ 206 ∧ a ≠ 213 ∧ a ≠ 207 ∧ a ≠ 208 ∧ a ≠ 209 ∧ a ≠ 210) (h : ko_K P σ0 σ) : ko Prod.snd P σ0 (f_X9_fittingRules a0 σ) := by
  unfold f_X9_fittingRules
  repeat' with_reducible first
    | assumption
    | refine ko_someV ?_
    | refine ko_someR ?_
    | refine ko_ite ?_ ?_
    | refine ko_gd (fun _ => ?_)
    | refine ko_gz ?_
    | refine ko_gb ?_
    | refine ko_gq ?_
    | refine ko_gl ?_
    | refine ko_lts ?_ (fun _ _ => ?_)
    | refine ko_ltx (fun _ => ?_)
    | refine ko_bd ?_ (fun _ _ _ => ?_)
    | refine ko_bv ?_ (fun _ _ => ?_)
    | refine ko_sui (by assumption) ?_
    | refine ko_suj (by assumption) ?_
    | refine ko_suc (by assumption) ?_
    | refine ko_suw (by assumption) ?_
    | refine ko_none
    | (refine fr_X9_fittingRules_4 ?_ (by assumption))
  all_goals (intro a k q; have q2 := hP a k q; clear hP q; obtain ⟨q0_, q1_, q2_, q3_, q4_, q5_, q6_, q7_, q8_, q9_, q10_, q11_, q12_, q13_, q14_, q15_⟩ := q2)
  all_goals ((repeat' apply And.intro) <;> first | exact trivial | assumption | exact fun e => absurd e.1 (by assumption))

theorem fr_X9_ruled {P : Nat → Nat → Prop} {σ0 σ : mm_S} {a0 : Nat} {i1 : Int32} (hP : ∀ a k, P a k → ¬ (a = 201 ∧ k = 0) ∧ ¬ (a = 201 ∧ k = 1) ∧ a ≠ 202 ∧ a ≠ 203 ∧ a ≠ 204 ∧ a ≠ 205 ∧ ¬ (a = 999 ∧ k = 0) ∧ ¬ (a = 200 ∧ k = 3) ∧ ¬ (a = 200 ∧ k = 4) ∧ ¬ (a = 200 ∧ k = 5) ∧ a ≠ 206 ∧ a ≠ 213 ∧ a ≠ 207 ∧ a ≠ 208 ∧ a ≠ 209 ∧ a ≠ 210) (h : ko_K P σ0 σ) : ko Prod.snd P σ0 (f_X9_ruled a0 i1 σ) := by
  unfold f_X9_ruled
  repeat' with_reducible first
    | assumption
    | refine ko_someV ?_
    | refine ko_someR ?_
    | refine ko_ite ?_ ?_
    | refine ko_gd (fun _ => ?_)
    | refine ko_gz ?_
    | refine ko_gb ?_
    | refine ko_gq ?_
    | refine ko_gl ?_
    | refine ko_lts ?_ (fun _ _ => ?_)
    | refine ko_ltx (fun _ => ?_)
    | refine ko_bd ?_ (fun _ _ _ => ?_)
    | refine ko_bv ?_ (fun _ _ => ?_)
    | refine ko_sui (by assumption) ?_
    | refine ko_suj (by assumption) ?_
    | refine ko_suc (by assumption) ?_
    | refine ko_suw (by assumption) ?_
    | refine ko_none
    | (refine fr_X9_fittingRules ?_ (by assumption))
    | (refine fr_J6_bitCount_0f7a4 ?_ (by assumption))
    | (refine fr_J6_numberOfTrailingZeros_0f7a4 ?_ (by assumption))
  all_goals (intro a k q; have q2 := hP a k q; clear hP q; obtain ⟨q0_, q1_, q2_, q3_, q4_, q5_, q6_, q7_, q8_, q9_, q10_, q11_, q12_, q13_, q14_, q15_⟩ := q2)
  all_goals ((repeat' apply And.intro) <;> first | exact trivial | assumption | exact fun e => absurd e.1 (by assumption))

theorem fr_X9_mostAlike_54 {P : Nat → Nat → Prop} {σ0 σ : mm_S} {k5 : (Int32 × Int32) → mm_S → Option (Int32 × mm_S)} {k20 : (Int32 × Int32) → mm_S → Option (Int32 × mm_S)} {a0 : Nat} {i1 : Int32} {i2 : Int32} {i3 : Int32} {i4 : Int32} {i5 : Int32} {i6 : Int32} {s0 : Int32} (hP : ∀ a k, P a k → True) (hk0 : ∀ v τ, ko_K P σ0 τ → ko Prod.snd P σ0 (k5 v τ)) (hk1 : ∀ v τ, ko_K P σ0 τ → ko Prod.snd P σ0 (k20 v τ)) (h : ko_K P σ0 σ) : ko Prod.snd P σ0 (f_X9_mostAlike_54 k5 k20 a0 i1 i2 i3 i4 i5 i6 s0 σ) := by
  unfold f_X9_mostAlike_54
  repeat' with_reducible first
    | assumption
    | refine ko_someV ?_
    | refine ko_someR ?_
    | refine ko_ite ?_ ?_
    | refine ko_gd (fun _ => ?_)
    | refine ko_gz ?_
    | refine ko_gb ?_
    | refine ko_gq ?_
    | refine ko_gl ?_
    | refine ko_lts ?_ (fun _ _ => ?_)
    | refine ko_ltx (fun _ => ?_)
    | refine ko_bd ?_ (fun _ _ _ => ?_)
    | refine ko_bv ?_ (fun _ _ => ?_)
    | refine ko_sui (by assumption) ?_
    | refine ko_suj (by assumption) ?_
    | refine ko_suc (by assumption) ?_
    | refine ko_suw (by assumption) ?_
    | refine ko_none
    | (apply hk0; assumption)
    | (apply hk1; assumption)
  all_goals (intro a k q; have q2 := hP a k q; clear hP q)
  all_goals ((repeat' apply And.intro) <;> first | exact trivial | assumption)

theorem fr_X9_mostAlike_20 {P : Nat → Nat → Prop} {σ0 σ : mm_S} {k5 : (Int32 × Int32) → mm_S → Option (Int32 × mm_S)} {a0 : Nat} {i1 : Int32} {i2 : Int32} {i3 : Int32} {i4 : Int32} {i5 : Int32} {i6 : Int32} (hP : ∀ a k, P a k → True) (hk0 : ∀ v τ, ko_K P σ0 τ → ko Prod.snd P σ0 (k5 v τ)) (h : ko_K P σ0 σ) : ko Prod.snd P σ0 (f_X9_mostAlike_20 k5 a0 i1 i2 i3 i4 i5 i6 σ) := by
  unfold f_X9_mostAlike_20
  refine ko_lp (fun rec hrec v τ hτ => ?_) lpN _ _ h
  repeat' with_reducible first
    | assumption
    | refine ko_someV ?_
    | refine ko_someR ?_
    | refine ko_ite ?_ ?_
    | refine ko_gd (fun _ => ?_)
    | refine ko_gz ?_
    | refine ko_gb ?_
    | refine ko_gq ?_
    | refine ko_gl ?_
    | refine ko_lts ?_ (fun _ _ => ?_)
    | refine ko_ltx (fun _ => ?_)
    | refine ko_bd ?_ (fun _ _ _ => ?_)
    | refine ko_bv ?_ (fun _ _ => ?_)
    | refine ko_sui (by assumption) ?_
    | refine ko_suj (by assumption) ?_
    | refine ko_suc (by assumption) ?_
    | refine ko_suw (by assumption) ?_
    | refine ko_none
    | (apply hk0; assumption)
    | (apply hrec; assumption)
    | (refine fr_X9_mostAlike_54 ?_ (by first | exact hrec | exact hk0) (by first | exact hrec | exact hk0) (by assumption))
  all_goals (intro a k q; have q2 := hP a k q; clear hP q)
  all_goals ((repeat' apply And.intro) <;> first | exact trivial | assumption)

theorem fr_X9_mostAlike_5 {P : Nat → Nat → Prop} {σ0 σ : mm_S} {a0 : Nat} {i1 : Int32} {i2 : Int32} {i3 : Int32} {i4 : Int32} (hP : ∀ a k, P a k → True) (h : ko_K P σ0 σ) : ko Prod.snd P σ0 (f_X9_mostAlike_5 a0 i1 i2 i3 i4 σ) := by
  unfold f_X9_mostAlike_5
  refine ko_lp (fun rec hrec v τ hτ => ?_) lpN _ _ h
  repeat' with_reducible first
    | assumption
    | refine ko_someV ?_
    | refine ko_someR ?_
    | refine ko_ite ?_ ?_
    | refine ko_gd (fun _ => ?_)
    | refine ko_gz ?_
    | refine ko_gb ?_
    | refine ko_gq ?_
    | refine ko_gl ?_
    | refine ko_lts ?_ (fun _ _ => ?_)
    | refine ko_ltx (fun _ => ?_)
    | refine ko_bd ?_ (fun _ _ _ => ?_)
    | refine ko_bv ?_ (fun _ _ => ?_)
    | refine ko_sui (by assumption) ?_
    | refine ko_suj (by assumption) ?_
    | refine ko_suc (by assumption) ?_
    | refine ko_suw (by assumption) ?_
    | refine ko_none
    | (apply hrec; assumption)
    | (refine fr_X9_mostAlike_20 ?_ (by first | exact hrec) (by assumption))
  all_goals (intro a k q; have q2 := hP a k q; clear hP q)
  all_goals ((repeat' apply And.intro) <;> first | exact trivial | assumption)

theorem fr_X9_mostAlike {P : Nat → Nat → Prop} {σ0 σ : mm_S} {a0 : Nat} {i1 : Int32} {i2 : Int32} (hP : ∀ a k, P a k → True) (h : ko_K P σ0 σ) : ko Prod.snd P σ0 (f_X9_mostAlike a0 i1 i2 σ) := by
  unfold f_X9_mostAlike
  repeat' with_reducible first
    | assumption
    | refine ko_someV ?_
    | refine ko_someR ?_
    | refine ko_ite ?_ ?_
    | refine ko_gd (fun _ => ?_)
    | refine ko_gz ?_
    | refine ko_gb ?_
    | refine ko_gq ?_
    | refine ko_gl ?_
    | refine ko_lts ?_ (fun _ _ => ?_)
    | refine ko_ltx (fun _ => ?_)
    | refine ko_bd ?_ (fun _ _ _ => ?_)
    | refine ko_bv ?_ (fun _ _ => ?_)
    | refine ko_sui (by assumption) ?_
    | refine ko_suj (by assumption) ?_
    | refine ko_suc (by assumption) ?_
    | refine ko_suw (by assumption) ?_
    | refine ko_none
    | (refine fr_X9_mostAlike_5 ?_ (by assumption))
  all_goals (intro a k q; have q2 := hP a k q; clear hP q)
  all_goals ((repeat' apply And.intro) <;> first | exact trivial | assumption)

theorem fr_X9_look_45 {P : Nat → Nat → Prop} {σ0 σ : mm_S} {a0 : Nat} {i1 : Int32} {i2 : Int32} {i3 : Int32} {i4 : Int32} {i5 : Int32} (hP : ∀ a k, P a k → True) (h : ko_K P σ0 σ) : ko Prod.snd P σ0 (f_X9_look_45 a0 i1 i2 i3 i4 i5 σ) := by
  unfold f_X9_look_45
  refine ko_lp (fun rec hrec v τ hτ => ?_) lpN _ _ h
  repeat' with_reducible first
    | assumption
    | refine ko_someV ?_
    | refine ko_someR ?_
    | refine ko_ite ?_ ?_
    | refine ko_gd (fun _ => ?_)
    | refine ko_gz ?_
    | refine ko_gb ?_
    | refine ko_gq ?_
    | refine ko_gl ?_
    | refine ko_lts ?_ (fun _ _ => ?_)
    | refine ko_ltx (fun _ => ?_)
    | refine ko_bd ?_ (fun _ _ _ => ?_)
    | refine ko_bv ?_ (fun _ _ => ?_)
    | refine ko_sui (by assumption) ?_
    | refine ko_suj (by assumption) ?_
    | refine ko_suc (by assumption) ?_
    | refine ko_suw (by assumption) ?_
    | refine ko_none
    | (apply hrec; assumption)
    | (refine fr_X9_mostAlike ?_ (by assumption))
  all_goals (intro a k q; have q2 := hP a k q; clear hP q)
  all_goals ((repeat' apply And.intro) <;> first | exact trivial | assumption)

theorem fr_X9_look {P : Nat → Nat → Prop} {σ0 σ : mm_S} {a0 : Nat} {i1 : Int32} (hP : ∀ a k, P a k → ¬ (a = 201 ∧ k = 0) ∧ ¬ (a = 201 ∧ k = 1) ∧ a ≠ 202 ∧ a ≠ 203 ∧ a ≠ 204 ∧ a ≠ 205 ∧ ¬ (a = 999 ∧ k = 0) ∧ ¬ (a = 200 ∧ k = 3) ∧ ¬ (a = 200 ∧ k = 4) ∧ ¬ (a = 200 ∧ k = 5) ∧ a ≠ 206 ∧ a ≠ 213 ∧ a ≠ 207 ∧ a ≠ 208 ∧ a ≠ 209 ∧ a ≠ 210) (h : ko_K P σ0 σ) : ko Prod.snd P σ0 (f_X9_look a0 i1 σ) := by
  unfold f_X9_look
  repeat' with_reducible first
    | assumption
    | refine ko_someV ?_
    | refine ko_someR ?_
    | refine ko_ite ?_ ?_
    | refine ko_gd (fun _ => ?_)
    | refine ko_gz ?_
    | refine ko_gb ?_
    | refine ko_gq ?_
    | refine ko_gl ?_
    | refine ko_lts ?_ (fun _ _ => ?_)
    | refine ko_ltx (fun _ => ?_)
    | refine ko_bd ?_ (fun _ _ _ => ?_)
    | refine ko_bv ?_ (fun _ _ => ?_)
    | refine ko_sui (by assumption) ?_
    | refine ko_suj (by assumption) ?_
    | refine ko_suc (by assumption) ?_
    | refine ko_suw (by assumption) ?_
    | refine ko_none
    | (refine fr_X9_fittingRules ?_ (by assumption))
    | (refine fr_X9_look_45 ?_ (by assumption))
  all_goals (intro a k q; have q2 := hP a k q; clear hP q; obtain ⟨q0_, q1_, q2_, q3_, q4_, q5_, q6_, q7_, q8_, q9_, q10_, q11_, q12_, q13_, q14_, q15_⟩ := q2)
  all_goals ((repeat' apply And.intro) <;> first | exact trivial | assumption | exact fun e => absurd e.1 (by assumption))

theorem fr_X9_seed {P : Nat → Nat → Prop} {σ0 σ : mm_S} {a0 : Nat} {i1 : Int32} (hP : ∀ a k, P a k → ¬ (a = 26 ∧ k = 4)) (h : ko_K P σ0 σ) : ko Prod.snd P σ0 (f_X9_seed a0 i1 σ) := by
  unfold f_X9_seed
  repeat' with_reducible first
    | assumption
    | refine ko_someV ?_
    | refine ko_someR ?_
    | refine ko_ite ?_ ?_
    | refine ko_gd (fun _ => ?_)
    | refine ko_gz ?_
    | refine ko_gb ?_
    | refine ko_gq ?_
    | refine ko_gl ?_
    | refine ko_lts ?_ (fun _ _ => ?_)
    | refine ko_ltx (fun _ => ?_)
    | refine ko_bd ?_ (fun _ _ _ => ?_)
    | refine ko_bv ?_ (fun _ _ => ?_)
    | refine ko_sui (by assumption) ?_
    | refine ko_suj (by assumption) ?_
    | refine ko_suc (by assumption) ?_
    | refine ko_suw (by assumption) ?_
    | refine ko_none
  all_goals (intro a k q; have q2 := hP a k q; clear hP q; have q0_ := q2; clear q2)
  all_goals ((repeat' apply And.intro) <;> first | exact trivial | assumption | exact fun e => absurd e.1 (by assumption))

theorem fr_X9_strangers_94 {P : Nat → Nat → Prop} {σ0 σ : mm_S} {k81 : (Int32 × Int32 × Int32) → mm_S → Option (Int32 × mm_S)} {a0 : Nat} {i1 : Int32} {i2 : Int32} {i3 : Int32} {i4 : Int32} {i5 : Int32} {i6 : Int32} {i7 : Int32} {i8 : Int32} (hP : ∀ a k, P a k → ¬ (a = 200 ∧ k = 5) ∧ ¬ (a = 200 ∧ k = 7) ∧ ¬ (a = 201 ∧ k = 0) ∧ ¬ (a = 201 ∧ k = 1) ∧ a ≠ 207 ∧ a ≠ 208 ∧ a ≠ 204 ∧ a ≠ 209 ∧ a ≠ 210 ∧ a ≠ 202 ∧ a ≠ 205 ∧ a ≠ 203) (hk0 : ∀ v τ, ko_K P σ0 τ → ko Prod.snd P σ0 (k81 v τ)) (h : ko_K P σ0 σ) : ko Prod.snd P σ0 (f_X9_strangers_94 k81 a0 i1 i2 i3 i4 i5 i6 i7 i8 σ) := by
  unfold f_X9_strangers_94
  refine ko_lp (fun rec hrec v τ hτ => ?_) lpN _ _ h
  repeat' with_reducible first
    | assumption
    | refine ko_someV ?_
    | refine ko_someR ?_
    | refine ko_ite ?_ ?_
    | refine ko_gd (fun _ => ?_)
    | refine ko_gz ?_
    | refine ko_gb ?_
    | refine ko_gq ?_
    | refine ko_gl ?_
    | refine ko_lts ?_ (fun _ _ => ?_)
    | refine ko_ltx (fun _ => ?_)
    | refine ko_bd ?_ (fun _ _ _ => ?_)
    | refine ko_bv ?_ (fun _ _ => ?_)
    | refine ko_sui (by assumption) ?_
    | refine ko_suj (by assumption) ?_
    | refine ko_suc (by assumption) ?_
    | refine ko_suw (by assumption) ?_
    | refine ko_none
    | (apply hk0; assumption)
    | (apply hrec; assumption)
    | (refine fr_X9_sum ?_ (by assumption))
    | (refine fr_X7_drawStranger ?_ (by assumption))
    | (refine fr_X7_passHours ?_ (by assumption))
  all_goals (intro a k q; have q2 := hP a k q; clear hP q; obtain ⟨q0_, q1_, q2_, q3_, q4_, q5_, q6_, q7_, q8_, q9_, q10_, q11_⟩ := q2)
  all_goals ((repeat' apply And.intro) <;> first | exact trivial | assumption | exact fun e => absurd e.1 (by assumption))

theorem fr_X9_strangers_81 {P : Nat → Nat → Prop} {σ0 σ : mm_S} {a0 : Nat} {i1 : Int32} {i2 : Int32} {i3 : Int32} {i4 : Int32} {i5 : Int32} {i6 : Int32} {i7 : Int32} (hP : ∀ a k, P a k → ¬ (a = 999 ∧ k = 0) ∧ ¬ (a = 200 ∧ k = 3) ∧ ¬ (a = 200 ∧ k = 4) ∧ ¬ (a = 200 ∧ k = 5) ∧ ¬ (a = 201 ∧ k = 0) ∧ ¬ (a = 201 ∧ k = 1) ∧ a ≠ 202 ∧ a ≠ 203 ∧ a ≠ 204 ∧ a ≠ 205 ∧ a ≠ 206 ∧ ¬ (a = 200 ∧ k = 7) ∧ a ≠ 207 ∧ a ≠ 208 ∧ a ≠ 209 ∧ a ≠ 210) (h : ko_K P σ0 σ) : ko Prod.snd P σ0 (f_X9_strangers_81 a0 i1 i2 i3 i4 i5 i6 i7 σ) := by
  unfold f_X9_strangers_81
  refine ko_lp (fun rec hrec v τ hτ => ?_) lpN _ _ h
  repeat' with_reducible first
    | assumption
    | refine ko_someV ?_
    | refine ko_someR ?_
    | refine ko_ite ?_ ?_
    | refine ko_gd (fun _ => ?_)
    | refine ko_gz ?_
    | refine ko_gb ?_
    | refine ko_gq ?_
    | refine ko_gl ?_
    | refine ko_lts ?_ (fun _ _ => ?_)
    | refine ko_ltx (fun _ => ?_)
    | refine ko_bd ?_ (fun _ _ _ => ?_)
    | refine ko_bv ?_ (fun _ _ => ?_)
    | refine ko_sui (by assumption) ?_
    | refine ko_suj (by assumption) ?_
    | refine ko_suc (by assumption) ?_
    | refine ko_suw (by assumption) ?_
    | refine ko_none
    | (apply hrec; assumption)
    | (refine fr_X9_walkFromNow ?_ (by assumption))
    | (refine fr_X9_strangers_94 ?_ (by first | exact hrec) (by assumption))
  all_goals (intro a k q; have q2 := hP a k q; clear hP q; obtain ⟨q0_, q1_, q2_, q3_, q4_, q5_, q6_, q7_, q8_, q9_, q10_, q11_, q12_, q13_, q14_, q15_⟩ := q2)
  all_goals ((repeat' apply And.intro) <;> first | exact trivial | assumption | exact fun e => absurd e.1 (by assumption))

theorem fr_X9_strangers {P : Nat → Nat → Prop} {σ0 σ : mm_S} {a0 : Nat} {i1 : Int32} {i2 : Int32} {i3 : Int32} {i4 : Int32} (hP : ∀ a k, P a k → ¬ (a = 200 ∧ k = 7) ∧ ¬ (a = 999 ∧ k = 0) ∧ ¬ (a = 200 ∧ k = 3) ∧ ¬ (a = 200 ∧ k = 4) ∧ ¬ (a = 200 ∧ k = 5) ∧ ¬ (a = 201 ∧ k = 0) ∧ ¬ (a = 201 ∧ k = 1) ∧ a ≠ 202 ∧ a ≠ 203 ∧ a ≠ 204 ∧ a ≠ 205 ∧ a ≠ 206 ∧ a ≠ 207 ∧ a ≠ 208 ∧ a ≠ 209 ∧ a ≠ 210) (h : ko_K P σ0 σ) : ko Prod.snd P σ0 (f_X9_strangers a0 i1 i2 i3 i4 σ) := by
  unfold f_X9_strangers
  repeat' with_reducible first
    | assumption
    | refine ko_someV ?_
    | refine ko_someR ?_
    | refine ko_ite ?_ ?_
    | refine ko_gd (fun _ => ?_)
    | refine ko_gz ?_
    | refine ko_gb ?_
    | refine ko_gq ?_
    | refine ko_gl ?_
    | refine ko_lts ?_ (fun _ _ => ?_)
    | refine ko_ltx (fun _ => ?_)
    | refine ko_bd ?_ (fun _ _ _ => ?_)
    | refine ko_bv ?_ (fun _ _ => ?_)
    | refine ko_sui (by assumption) ?_
    | refine ko_suj (by assumption) ?_
    | refine ko_suc (by assumption) ?_
    | refine ko_suw (by assumption) ?_
    | refine ko_none
    | (refine fr_X9_strangers_81 ?_ (by assumption))
  all_goals (intro a k q; have q2 := hP a k q; clear hP q; obtain ⟨q0_, q1_, q2_, q3_, q4_, q5_, q6_, q7_, q8_, q9_, q10_, q11_, q12_, q13_, q14_, q15_⟩ := q2)
  all_goals ((repeat' apply And.intro) <;> first | exact trivial | assumption | exact fun e => absurd e.1 (by assumption))

theorem fr_X9_image {P : Nat → Nat → Prop} {σ0 σ : mm_S} {a0 : Nat} {i1 : Int32} (hP : ∀ a k, P a k → a ≠ 97 ∧ (a < 41 ∨ 97 ≤ a)) (h : ko_K P σ0 σ) : ko Prod.snd P σ0 (f_X9_image a0 i1 σ) := by
  unfold f_X9_image
  repeat' with_reducible first
    | assumption
    | refine ko_someV ?_
    | refine ko_someR ?_
    | refine ko_ite ?_ ?_
    | refine ko_gd (fun _ => ?_)
    | refine ko_gz ?_
    | refine ko_gb ?_
    | refine ko_gq ?_
    | refine ko_gl ?_
    | refine ko_lts ?_ (fun _ _ => ?_)
    | refine ko_ltx (fun _ => ?_)
    | refine ko_bd ?_ (fun _ _ _ => ?_)
    | refine ko_bv ?_ (fun _ _ => ?_)
    | refine ko_sui (by assumption) ?_
    | refine ko_suj (by assumption) ?_
    | refine ko_suc (by assumption) ?_
    | refine ko_suw (by assumption) ?_
    | refine ko_none
    | (refine fr_X8_take ?_ (by assumption))
  all_goals (intro a k q; have q2 := hP a k q; clear hP q; obtain ⟨q0_, q1_⟩ := q2)
  all_goals ((repeat' apply And.intro) <;> first | exact trivial | assumption | exact fun e => absurd e.1 (by assumption) | (clear q0_; omega))

theorem fr_X9_back {P : Nat → Nat → Prop} {σ0 σ : mm_S} {a0 : Nat} {i1 : Int32} (hP : ∀ a k, P a k → ¬ (a = 26 ∧ k = 3) ∧ ¬ (a = 26 ∧ k = 4) ∧ ¬ (a = 27 ∧ k = 0) ∧ ¬ (a = 27 ∧ k = 1) ∧ ¬ (a = 27 ∧ k = 2) ∧ ¬ (a = 27 ∧ k = 3) ∧ ¬ (a = 27 ∧ k = 4) ∧ a ≠ 28 ∧ a ≠ 29 ∧ a ≠ 30 ∧ ¬ (a = 31 ∧ k = 0) ∧ ¬ (a = 31 ∧ k = 1) ∧ a ≠ 32 ∧ a ≠ 33 ∧ a ≠ 34 ∧ a ≠ 35 ∧ ¬ (a = 36 ∧ k = 0) ∧ a ≠ 37 ∧ a ≠ 38 ∧ a ≠ 39 ∧ ¬ (a = 98 ∧ k = 2)) (h : ko_K P σ0 σ) : ko Prod.snd P σ0 (f_X9_back a0 i1 σ) := by
  unfold f_X9_back
  repeat' with_reducible first
    | assumption
    | refine ko_someV ?_
    | refine ko_someR ?_
    | refine ko_ite ?_ ?_
    | refine ko_gd (fun _ => ?_)
    | refine ko_gz ?_
    | refine ko_gb ?_
    | refine ko_gq ?_
    | refine ko_gl ?_
    | refine ko_lts ?_ (fun _ _ => ?_)
    | refine ko_ltx (fun _ => ?_)
    | refine ko_bd ?_ (fun _ _ _ => ?_)
    | refine ko_bv ?_ (fun _ _ => ?_)
    | refine ko_sui (by assumption) ?_
    | refine ko_suj (by assumption) ?_
    | refine ko_suc (by assumption) ?_
    | refine ko_suw (by assumption) ?_
    | refine ko_none
    | (refine fr_X8_take ?_ (by assumption))
    | (refine fr_X0_forget ?_ (by assumption))
  all_goals (intro a k q; have q2 := hP a k q; clear hP q; obtain ⟨q0_, q1_, q2_, q3_, q4_, q5_, q6_, q7_, q8_, q9_, q10_, q11_, q12_, q13_, q14_, q15_, q16_, q17_, q18_, q19_, q20_⟩ := q2)
  all_goals ((repeat' apply And.intro) <;> first | exact trivial | assumption | exact fun e => absurd e.1 (by assumption))

theorem fr_X10_in {P : Nat → Nat → Prop} {σ0 σ : mm_S} {j0 : Int64} {j2 : Int64} {j4 : Int64} (hP : ∀ a k, P a k → True) (h : ko_K P σ0 σ) : ko Prod.snd P σ0 (f_X10_in j0 j2 j4 σ) := by
  unfold f_X10_in
  repeat' with_reducible first
    | assumption
    | refine ko_someV ?_
    | refine ko_someR ?_
    | refine ko_ite ?_ ?_
    | refine ko_gd (fun _ => ?_)
    | refine ko_gz ?_
    | refine ko_gb ?_
    | refine ko_gq ?_
    | refine ko_gl ?_
    | refine ko_lts ?_ (fun _ _ => ?_)
    | refine ko_ltx (fun _ => ?_)
    | refine ko_bd ?_ (fun _ _ _ => ?_)
    | refine ko_bv ?_ (fun _ _ => ?_)
    | refine ko_sui (by assumption) ?_
    | refine ko_suj (by assumption) ?_
    | refine ko_suc (by assumption) ?_
    | refine ko_suw (by assumption) ?_
    | refine ko_none
  all_goals (intro a k q; have q2 := hP a k q; clear hP q)
  all_goals ((repeat' apply And.intro) <;> first | exact trivial | assumption)

theorem fr_X10_isOf {P : Nat → Nat → Prop} {σ0 σ : mm_S} {i0 : Int32} {i1 : Int32} (hP : ∀ a k, P a k → True) (h : ko_K P σ0 σ) : ko Prod.snd P σ0 (f_X10_isOf i0 i1 σ) := by
  unfold f_X10_isOf
  repeat' with_reducible first
    | assumption
    | refine ko_someV ?_
    | refine ko_someR ?_
    | refine ko_ite ?_ ?_
    | refine ko_gd (fun _ => ?_)
    | refine ko_gz ?_
    | refine ko_gb ?_
    | refine ko_gq ?_
    | refine ko_gl ?_
    | refine ko_lts ?_ (fun _ _ => ?_)
    | refine ko_ltx (fun _ => ?_)
    | refine ko_bd ?_ (fun _ _ _ => ?_)
    | refine ko_bv ?_ (fun _ _ => ?_)
    | refine ko_sui (by assumption) ?_
    | refine ko_suj (by assumption) ?_
    | refine ko_suc (by assumption) ?_
    | refine ko_suw (by assumption) ?_
    | refine ko_none
  all_goals (intro a k q; have q2 := hP a k q; clear hP q)
  all_goals ((repeat' apply And.intro) <;> first | exact trivial | assumption)

theorem fr_X10_bits_4 {P : Nat → Nat → Prop} {σ0 σ : mm_S} {i1 : Int32} {i2 : Int32} (hP : ∀ a k, P a k → True) (h : ko_K P σ0 σ) : ko Prod.snd P σ0 (f_X10_bits_4 i1 i2 σ) := by
  unfold f_X10_bits_4
  refine ko_lp (fun rec hrec v τ hτ => ?_) lpN _ _ h
  repeat' with_reducible first
    | assumption
    | refine ko_someV ?_
    | refine ko_someR ?_
    | refine ko_ite ?_ ?_
    | refine ko_gd (fun _ => ?_)
    | refine ko_gz ?_
    | refine ko_gb ?_
    | refine ko_gq ?_
    | refine ko_gl ?_
    | refine ko_lts ?_ (fun _ _ => ?_)
    | refine ko_ltx (fun _ => ?_)
    | refine ko_bd ?_ (fun _ _ _ => ?_)
    | refine ko_bv ?_ (fun _ _ => ?_)
    | refine ko_sui (by assumption) ?_
    | refine ko_suj (by assumption) ?_
    | refine ko_suc (by assumption) ?_
    | refine ko_suw (by assumption) ?_
    | refine ko_none
    | (apply hrec; assumption)
  all_goals (intro a k q; have q2 := hP a k q; clear hP q)
  all_goals ((repeat' apply And.intro) <;> first | exact trivial | assumption)

theorem fr_X10_bits {P : Nat → Nat → Prop} {σ0 σ : mm_S} {i0 : Int32} (hP : ∀ a k, P a k → True) (h : ko_K P σ0 σ) : ko Prod.snd P σ0 (f_X10_bits i0 σ) := by
  unfold f_X10_bits
  repeat' with_reducible first
    | assumption
    | refine ko_someV ?_
    | refine ko_someR ?_
    | refine ko_ite ?_ ?_
    | refine ko_gd (fun _ => ?_)
    | refine ko_gz ?_
    | refine ko_gb ?_
    | refine ko_gq ?_
    | refine ko_gl ?_
    | refine ko_lts ?_ (fun _ _ => ?_)
    | refine ko_ltx (fun _ => ?_)
    | refine ko_bd ?_ (fun _ _ _ => ?_)
    | refine ko_bv ?_ (fun _ _ => ?_)
    | refine ko_sui (by assumption) ?_
    | refine ko_suj (by assumption) ?_
    | refine ko_suc (by assumption) ?_
    | refine ko_suw (by assumption) ?_
    | refine ko_none
    | (refine fr_X10_bits_4 ?_ (by assumption))
  all_goals (intro a k q; have q2 := hP a k q; clear hP q)
  all_goals ((repeat' apply And.intro) <;> first | exact trivial | assumption)

theorem fr_X10_four_3 {P : Nat → Nat → Prop} {σ0 σ : mm_S} {a0 : Nat} {i1 : Int32} {i2 : Int32} (hP : ∀ a k, P a k → a ≠ 215 ∧ ¬ (a = a0 ∧ k = 1)) (h : ko_K P σ0 σ) : ko id P σ0 (f_X10_four_3 a0 i1 i2 σ) := by
  unfold f_X10_four_3
  refine ko_lp (fun rec hrec v τ hτ => ?_) lpN _ _ h
  repeat' with_reducible first
    | assumption
    | refine ko_someV ?_
    | refine ko_someR ?_
    | refine ko_ite ?_ ?_
    | refine ko_gd (fun _ => ?_)
    | refine ko_gz ?_
    | refine ko_gb ?_
    | refine ko_gq ?_
    | refine ko_gl ?_
    | refine ko_lts ?_ (fun _ _ => ?_)
    | refine ko_ltx (fun _ => ?_)
    | refine ko_bd ?_ (fun _ _ _ => ?_)
    | refine ko_bv ?_ (fun _ _ => ?_)
    | refine ko_sui (by assumption) ?_
    | refine ko_suj (by assumption) ?_
    | refine ko_suc (by assumption) ?_
    | refine ko_suw (by assumption) ?_
    | refine ko_none
    | (apply hrec; assumption)
  all_goals (intro a k q; have q2 := hP a k q; clear hP q; obtain ⟨q0_, q1_⟩ := q2)
  all_goals ((repeat' apply And.intro) <;> first | exact trivial | assumption | exact fun e => absurd e.1 (by assumption))

theorem fr_X10_four {P : Nat → Nat → Prop} {σ0 σ : mm_S} {a0 : Nat} {i1 : Int32} (hP : ∀ a k, P a k → a ≠ 215 ∧ ¬ (a = a0 ∧ k = 1)) (h : ko_K P σ0 σ) : ko id P σ0 (f_X10_four a0 i1 σ) := by
  unfold f_X10_four
  repeat' with_reducible first
    | assumption
    | refine ko_someV ?_
    | refine ko_someR ?_
    | refine ko_ite ?_ ?_
    | refine ko_gd (fun _ => ?_)
    | refine ko_gz ?_
    | refine ko_gb ?_
    | refine ko_gq ?_
    | refine ko_gl ?_
    | refine ko_lts ?_ (fun _ _ => ?_)
    | refine ko_ltx (fun _ => ?_)
    | refine ko_bd ?_ (fun _ _ _ => ?_)
    | refine ko_bv ?_ (fun _ _ => ?_)
    | refine ko_sui (by assumption) ?_
    | refine ko_suj (by assumption) ?_
    | refine ko_suc (by assumption) ?_
    | refine ko_suw (by assumption) ?_
    | refine ko_none
    | (refine fr_X10_four_3 ?_ (by assumption))
  all_goals (intro a k q; have q2 := hP a k q; clear hP q; obtain ⟨q0_, q1_⟩ := q2)
  all_goals ((repeat' apply And.intro) <;> first | exact trivial | assumption | exact fun e => absurd e.1 (by assumption))

theorem fr_X10_feed {P : Nat → Nat → Prop} {σ0 σ : mm_S} {a0 : Nat} {i1 : Int32} {i2 : Int32} {i3 : Int32} {i4 : Int32} {i5 : Int32} (hP : ∀ a k, P a k → a ≠ 215 ∧ ¬ (a = a0 ∧ k = 1)) (h : ko_K P σ0 σ) : ko Prod.snd P σ0 (f_X10_feed a0 i1 i2 i3 i4 i5 σ) := by
  unfold f_X10_feed
  repeat' with_reducible first
    | assumption
    | refine ko_someV ?_
    | refine ko_someR ?_
    | refine ko_ite ?_ ?_
    | refine ko_gd (fun _ => ?_)
    | refine ko_gz ?_
    | refine ko_gb ?_
    | refine ko_gq ?_
    | refine ko_gl ?_
    | refine ko_lts ?_ (fun _ _ => ?_)
    | refine ko_ltx (fun _ => ?_)
    | refine ko_bd ?_ (fun _ _ _ => ?_)
    | refine ko_bv ?_ (fun _ _ => ?_)
    | refine ko_sui (by assumption) ?_
    | refine ko_suj (by assumption) ?_
    | refine ko_suc (by assumption) ?_
    | refine ko_suw (by assumption) ?_
    | refine ko_none
    | (refine fr_X10_four ?_ (by assumption))
  all_goals (intro a k q; have q2 := hP a k q; clear hP q; obtain ⟨q0_, q1_⟩ := q2)
  all_goals ((repeat' apply And.intro) <;> first | exact trivial | assumption | exact fun e => absurd e.1 (by assumption))

theorem fr_X10_end {P : Nat → Nat → Prop} {σ0 σ : mm_S} {a0 : Nat} {i1 : Int32} (hP : ∀ a k, P a k → ¬ (a = a0 ∧ k = 1)) (h : ko_K P σ0 σ) : ko Prod.snd P σ0 (f_X10_end a0 i1 σ) := by
  unfold f_X10_end
  repeat' with_reducible first
    | assumption
    | refine ko_someV ?_
    | refine ko_someR ?_
    | refine ko_ite ?_ ?_
    | refine ko_gd (fun _ => ?_)
    | refine ko_gz ?_
    | refine ko_gb ?_
    | refine ko_gq ?_
    | refine ko_gl ?_
    | refine ko_lts ?_ (fun _ _ => ?_)
    | refine ko_ltx (fun _ => ?_)
    | refine ko_bd ?_ (fun _ _ _ => ?_)
    | refine ko_bv ?_ (fun _ _ => ?_)
    | refine ko_sui (by assumption) ?_
    | refine ko_suj (by assumption) ?_
    | refine ko_suc (by assumption) ?_
    | refine ko_suw (by assumption) ?_
    | refine ko_none
  all_goals (intro a k q; have q2 := hP a k q; clear hP q; have q0_ := q2; clear q2)
  all_goals ((repeat' apply And.intro) <;> first | exact trivial | assumption | exact fun e => absurd e.1 (by assumption))

theorem fr_X10_fails {P : Nat → Nat → Prop} {σ0 σ : mm_S} {a0 : Nat} {i1 : Int32} {i2 : Int32} (hP : ∀ a k, P a k → ¬ (a = a0 ∧ k = 9)) (h : ko_K P σ0 σ) : ko Prod.snd P σ0 (f_X10_fails a0 i1 i2 σ) := by
  unfold f_X10_fails
  repeat' with_reducible first
    | assumption
    | refine ko_someV ?_
    | refine ko_someR ?_
    | refine ko_ite ?_ ?_
    | refine ko_gd (fun _ => ?_)
    | refine ko_gz ?_
    | refine ko_gb ?_
    | refine ko_gq ?_
    | refine ko_gl ?_
    | refine ko_lts ?_ (fun _ _ => ?_)
    | refine ko_ltx (fun _ => ?_)
    | refine ko_bd ?_ (fun _ _ _ => ?_)
    | refine ko_bv ?_ (fun _ _ => ?_)
    | refine ko_sui (by assumption) ?_
    | refine ko_suj (by assumption) ?_
    | refine ko_suc (by assumption) ?_
    | refine ko_suw (by assumption) ?_
    | refine ko_none
  all_goals (intro a k q; have q2 := hP a k q; clear hP q; have q0_ := q2; clear q2)
  all_goals ((repeat' apply And.intro) <;> first | exact trivial | assumption | exact fun e => absurd e.1 (by assumption))

theorem fr_X10_see_38 {P : Nat → Nat → Prop} {σ0 σ : mm_S} {a0 : Nat} (hP : ∀ a k, P a k → True) (h : ko_K P σ0 σ) : ko Prod.snd P σ0 (f_X10_see_38 a0 σ) := by
  unfold f_X10_see_38
  repeat' with_reducible first
    | assumption
    | refine ko_someV ?_
    | refine ko_someR ?_
    | refine ko_ite ?_ ?_
    | refine ko_gd (fun _ => ?_)
    | refine ko_gz ?_
    | refine ko_gb ?_
    | refine ko_gq ?_
    | refine ko_gl ?_
    | refine ko_lts ?_ (fun _ _ => ?_)
    | refine ko_ltx (fun _ => ?_)
    | refine ko_bd ?_ (fun _ _ _ => ?_)
    | refine ko_bv ?_ (fun _ _ => ?_)
    | refine ko_sui (by assumption) ?_
    | refine ko_suj (by assumption) ?_
    | refine ko_suc (by assumption) ?_
    | refine ko_suw (by assumption) ?_
    | refine ko_none
  all_goals (intro a k q; have q2 := hP a k q; clear hP q)
  all_goals ((repeat' apply And.intro) <;> first | exact trivial | assumption)

theorem fr_X10_see_0 {P : Nat → Nat → Prop} {σ0 σ : mm_S} {a0 : Nat} (hP : ∀ a k, P a k → ¬ (a = a0 ∧ k = 8)) (h : ko_K P σ0 σ) : ko Prod.snd P σ0 (f_X10_see_0 a0 σ) := by
  unfold f_X10_see_0
  refine ko_lp (fun rec hrec v τ hτ => ?_) lpN _ _ h
  repeat' with_reducible first
    | assumption
    | refine ko_someV ?_
    | refine ko_someR ?_
    | refine ko_ite ?_ ?_
    | refine ko_gd (fun _ => ?_)
    | refine ko_gz ?_
    | refine ko_gb ?_
    | refine ko_gq ?_
    | refine ko_gl ?_
    | refine ko_lts ?_ (fun _ _ => ?_)
    | refine ko_ltx (fun _ => ?_)
    | refine ko_bd ?_ (fun _ _ _ => ?_)
    | refine ko_bv ?_ (fun _ _ => ?_)
    | refine ko_sui (by assumption) ?_
    | refine ko_suj (by assumption) ?_
    | refine ko_suc (by assumption) ?_
    | refine ko_suw (by assumption) ?_
    | refine ko_none
    | (apply hrec; assumption)
    | (refine fr_X10_see_38 ?_ (by assumption))
  all_goals (intro a k q; have q2 := hP a k q; clear hP q; have q0_ := q2; clear q2)
  all_goals ((repeat' apply And.intro) <;> first | exact trivial | assumption | exact fun e => absurd e.1 (by assumption))

theorem fr_X10_see {P : Nat → Nat → Prop} {σ0 σ : mm_S} {a0 : Nat} (hP : ∀ a k, P a k → ¬ (a = a0 ∧ k = 8)) (h : ko_K P σ0 σ) : ko Prod.snd P σ0 (f_X10_see a0 σ) := by
  unfold f_X10_see
  repeat' with_reducible first
    | assumption
    | refine ko_someV ?_
    | refine ko_someR ?_
    | refine ko_ite ?_ ?_
    | refine ko_gd (fun _ => ?_)
    | refine ko_gz ?_
    | refine ko_gb ?_
    | refine ko_gq ?_
    | refine ko_gl ?_
    | refine ko_lts ?_ (fun _ _ => ?_)
    | refine ko_ltx (fun _ => ?_)
    | refine ko_bd ?_ (fun _ _ _ => ?_)
    | refine ko_bv ?_ (fun _ _ => ?_)
    | refine ko_sui (by assumption) ?_
    | refine ko_suj (by assumption) ?_
    | refine ko_suc (by assumption) ?_
    | refine ko_suw (by assumption) ?_
    | refine ko_none
    | (refine fr_X10_see_0 ?_ (by assumption))
  all_goals (intro a k q; have q2 := hP a k q; clear hP q; have q0_ := q2; clear q2)
  all_goals ((repeat' apply And.intro) <;> first | exact trivial | assumption | exact fun e => absurd e.1 (by assumption))

theorem fr_X10_isDigit {P : Nat → Nat → Prop} {σ0 σ : mm_S} {a0 : Nat} {i1 : Int32} (hP : ∀ a k, P a k → True) (h : ko_K P σ0 σ) : ko Prod.snd P σ0 (f_X10_isDigit a0 i1 σ) := by
  unfold f_X10_isDigit
  repeat' with_reducible first
    | assumption
    | refine ko_someV ?_
    | refine ko_someR ?_
    | refine ko_ite ?_ ?_
    | refine ko_gd (fun _ => ?_)
    | refine ko_gz ?_
    | refine ko_gb ?_
    | refine ko_gq ?_
    | refine ko_gl ?_
    | refine ko_lts ?_ (fun _ _ => ?_)
    | refine ko_ltx (fun _ => ?_)
    | refine ko_bd ?_ (fun _ _ _ => ?_)
    | refine ko_bv ?_ (fun _ _ => ?_)
    | refine ko_sui (by assumption) ?_
    | refine ko_suj (by assumption) ?_
    | refine ko_suc (by assumption) ?_
    | refine ko_suw (by assumption) ?_
    | refine ko_none
  all_goals (intro a k q; have q2 := hP a k q; clear hP q)
  all_goals ((repeat' apply And.intro) <;> first | exact trivial | assumption)

theorem fr_X10_isLetter {P : Nat → Nat → Prop} {σ0 σ : mm_S} {a0 : Nat} {i1 : Int32} (hP : ∀ a k, P a k → True) (h : ko_K P σ0 σ) : ko Prod.snd P σ0 (f_X10_isLetter a0 i1 σ) := by
  unfold f_X10_isLetter
  repeat' with_reducible first
    | assumption
    | refine ko_someV ?_
    | refine ko_someR ?_
    | refine ko_ite ?_ ?_
    | refine ko_gd (fun _ => ?_)
    | refine ko_gz ?_
    | refine ko_gb ?_
    | refine ko_gq ?_
    | refine ko_gl ?_
    | refine ko_lts ?_ (fun _ _ => ?_)
    | refine ko_ltx (fun _ => ?_)
    | refine ko_bd ?_ (fun _ _ _ => ?_)
    | refine ko_bv ?_ (fun _ _ => ?_)
    | refine ko_sui (by assumption) ?_
    | refine ko_suj (by assumption) ?_
    | refine ko_suc (by assumption) ?_
    | refine ko_suw (by assumption) ?_
    | refine ko_none
  all_goals (intro a k q; have q2 := hP a k q; clear hP q)
  all_goals ((repeat' apply And.intro) <;> first | exact trivial | assumption)

theorem fr_X10_isWord_10 {P : Nat → Nat → Prop} {σ0 σ : mm_S} {a0 : Nat} {j1 : Int64} {j3 : Int64} {i5 : Int32} (hP : ∀ a k, P a k → True) (h : ko_K P σ0 σ) : ko Prod.snd P σ0 (f_X10_isWord_10 a0 j1 j3 i5 σ) := by
  unfold f_X10_isWord_10
  refine ko_lp (fun rec hrec v τ hτ => ?_) lpN _ _ h
  repeat' with_reducible first
    | assumption
    | refine ko_someV ?_
    | refine ko_someR ?_
    | refine ko_ite ?_ ?_
    | refine ko_gd (fun _ => ?_)
    | refine ko_gz ?_
    | refine ko_gb ?_
    | refine ko_gq ?_
    | refine ko_gl ?_
    | refine ko_lts ?_ (fun _ _ => ?_)
    | refine ko_ltx (fun _ => ?_)
    | refine ko_bd ?_ (fun _ _ _ => ?_)
    | refine ko_bv ?_ (fun _ _ => ?_)
    | refine ko_sui (by assumption) ?_
    | refine ko_suj (by assumption) ?_
    | refine ko_suc (by assumption) ?_
    | refine ko_suw (by assumption) ?_
    | refine ko_none
    | (apply hrec; assumption)
    | (refine fr_X10_isLetter ?_ (by assumption))
  all_goals (intro a k q; have q2 := hP a k q; clear hP q)
  all_goals ((repeat' apply And.intro) <;> first | exact trivial | assumption)

theorem fr_X10_isWord {P : Nat → Nat → Prop} {σ0 σ : mm_S} {a0 : Nat} {j1 : Int64} (hP : ∀ a k, P a k → ¬ (a = a0 ∧ k = 8)) (h : ko_K P σ0 σ) : ko Prod.snd P σ0 (f_X10_isWord a0 j1 σ) := by
  unfold f_X10_isWord
  repeat' with_reducible first
    | assumption
    | refine ko_someV ?_
    | refine ko_someR ?_
    | refine ko_ite ?_ ?_
    | refine ko_gd (fun _ => ?_)
    | refine ko_gz ?_
    | refine ko_gb ?_
    | refine ko_gq ?_
    | refine ko_gl ?_
    | refine ko_lts ?_ (fun _ _ => ?_)
    | refine ko_ltx (fun _ => ?_)
    | refine ko_bd ?_ (fun _ _ _ => ?_)
    | refine ko_bv ?_ (fun _ _ => ?_)
    | refine ko_sui (by assumption) ?_
    | refine ko_suj (by assumption) ?_
    | refine ko_suc (by assumption) ?_
    | refine ko_suw (by assumption) ?_
    | refine ko_none
    | (refine fr_X10_see ?_ (by assumption))
    | (refine fr_X10_isWord_10 ?_ (by assumption))
  all_goals (intro a k q; have q2 := hP a k q; clear hP q; have q0_ := q2; clear q2)
  all_goals ((repeat' apply And.intro) <;> first | exact trivial | assumption | exact fun e => absurd e.1 (by assumption))

theorem fr_X10_passWord_0 {P : Nat → Nat → Prop} {σ0 σ : mm_S} {a0 : Nat} (hP : ∀ a k, P a k → ¬ (a = a0 ∧ k = 8)) (h : ko_K P σ0 σ) : ko id P σ0 (f_X10_passWord_0 a0 σ) := by
  unfold f_X10_passWord_0
  refine ko_lp (fun rec hrec v τ hτ => ?_) lpN _ _ h
  repeat' with_reducible first
    | assumption
    | refine ko_someV ?_
    | refine ko_someR ?_
    | refine ko_ite ?_ ?_
    | refine ko_gd (fun _ => ?_)
    | refine ko_gz ?_
    | refine ko_gb ?_
    | refine ko_gq ?_
    | refine ko_gl ?_
    | refine ko_lts ?_ (fun _ _ => ?_)
    | refine ko_ltx (fun _ => ?_)
    | refine ko_bd ?_ (fun _ _ _ => ?_)
    | refine ko_bv ?_ (fun _ _ => ?_)
    | refine ko_sui (by assumption) ?_
    | refine ko_suj (by assumption) ?_
    | refine ko_suc (by assumption) ?_
    | refine ko_suw (by assumption) ?_
    | refine ko_none
    | (apply hrec; assumption)
    | (refine fr_X10_isLetter ?_ (by assumption))
  all_goals (intro a k q; have q2 := hP a k q; clear hP q; have q0_ := q2; clear q2)
  all_goals ((repeat' apply And.intro) <;> first | exact trivial | assumption | exact fun e => absurd e.1 (by assumption))

theorem fr_X10_passWord {P : Nat → Nat → Prop} {σ0 σ : mm_S} {a0 : Nat} (hP : ∀ a k, P a k → ¬ (a = a0 ∧ k = 8)) (h : ko_K P σ0 σ) : ko id P σ0 (f_X10_passWord a0 σ) := by
  unfold f_X10_passWord
  repeat' with_reducible first
    | assumption
    | refine ko_someV ?_
    | refine ko_someR ?_
    | refine ko_ite ?_ ?_
    | refine ko_gd (fun _ => ?_)
    | refine ko_gz ?_
    | refine ko_gb ?_
    | refine ko_gq ?_
    | refine ko_gl ?_
    | refine ko_lts ?_ (fun _ _ => ?_)
    | refine ko_ltx (fun _ => ?_)
    | refine ko_bd ?_ (fun _ _ _ => ?_)
    | refine ko_bv ?_ (fun _ _ => ?_)
    | refine ko_sui (by assumption) ?_
    | refine ko_suj (by assumption) ?_
    | refine ko_suc (by assumption) ?_
    | refine ko_suw (by assumption) ?_
    | refine ko_none
    | (refine fr_X10_passWord_0 ?_ (by assumption))
  all_goals (intro a k q; have q2 := hP a k q; clear hP q; have q0_ := q2; clear q2)
  all_goals ((repeat' apply And.intro) <;> first | exact trivial | assumption | exact fun e => absurd e.1 (by assumption))

theorem fr_X10_takesWord {P : Nat → Nat → Prop} {σ0 σ : mm_S} {a0 : Nat} {j1 : Int64} (hP : ∀ a k, P a k → ¬ (a = a0 ∧ k = 8)) (h : ko_K P σ0 σ) : ko Prod.snd P σ0 (f_X10_takesWord a0 j1 σ) := by
  unfold f_X10_takesWord
  repeat' with_reducible first
    | assumption
    | refine ko_someV ?_
    | refine ko_someR ?_
    | refine ko_ite ?_ ?_
    | refine ko_gd (fun _ => ?_)
    | refine ko_gz ?_
    | refine ko_gb ?_
    | refine ko_gq ?_
    | refine ko_gl ?_
    | refine ko_lts ?_ (fun _ _ => ?_)
    | refine ko_ltx (fun _ => ?_)
    | refine ko_bd ?_ (fun _ _ _ => ?_)
    | refine ko_bv ?_ (fun _ _ => ?_)
    | refine ko_sui (by assumption) ?_
    | refine ko_suj (by assumption) ?_
    | refine ko_suc (by assumption) ?_
    | refine ko_suw (by assumption) ?_
    | refine ko_none
    | (refine fr_X10_isWord ?_ (by assumption))
    | (refine fr_X10_passWord ?_ (by assumption))
  all_goals (intro a k q; have q2 := hP a k q; clear hP q; have q0_ := q2; clear q2)
  all_goals ((repeat' apply And.intro) <;> first | exact trivial | assumption | exact fun e => absurd e.1 (by assumption))

theorem fr_X10_numberHere_117 {P : Nat → Nat → Prop} {σ0 σ : mm_S} {a0 : Nat} {i3 : Int32} (hP : ∀ a k, P a k → ¬ (a = a0 ∧ k = 9)) (h : ko_K P σ0 σ) : ko Prod.snd P σ0 (f_X10_numberHere_117 a0 i3 σ) := by
  unfold f_X10_numberHere_117
  repeat' with_reducible first
    | assumption
    | refine ko_someV ?_
    | refine ko_someR ?_
    | refine ko_ite ?_ ?_
    | refine ko_gd (fun _ => ?_)
    | refine ko_gz ?_
    | refine ko_gb ?_
    | refine ko_gq ?_
    | refine ko_gl ?_
    | refine ko_lts ?_ (fun _ _ => ?_)
    | refine ko_ltx (fun _ => ?_)
    | refine ko_bd ?_ (fun _ _ _ => ?_)
    | refine ko_bv ?_ (fun _ _ => ?_)
    | refine ko_sui (by assumption) ?_
    | refine ko_suj (by assumption) ?_
    | refine ko_suc (by assumption) ?_
    | refine ko_suw (by assumption) ?_
    | refine ko_none
    | (refine fr_X10_fails ?_ (by assumption))
  all_goals (intro a k q; have q2 := hP a k q; clear hP q; have q0_ := q2; clear q2)
  all_goals ((repeat' apply And.intro) <;> first | exact trivial | assumption | exact fun e => absurd e.1 (by assumption))

theorem fr_X10_numberHere_75 {P : Nat → Nat → Prop} {σ0 σ : mm_S} {k34 : (Int32) → mm_S → Option (Int32 × mm_S)} {a0 : Nat} {i1 : Int32} {i2 : Int32} {i3 : Int32} {i4 : Int32} (hP : ∀ a k, P a k → ¬ (a = a0 ∧ k = 8)) (hk0 : ∀ v τ, ko_K P σ0 τ → ko Prod.snd P σ0 (k34 v τ)) (h : ko_K P σ0 σ) : ko Prod.snd P σ0 (f_X10_numberHere_75 k34 a0 i1 i2 i3 i4 σ) := by
  unfold f_X10_numberHere_75
  repeat' with_reducible first
    | assumption
    | refine ko_someV ?_
    | refine ko_someR ?_
    | refine ko_ite ?_ ?_
    | refine ko_gd (fun _ => ?_)
    | refine ko_gz ?_
    | refine ko_gb ?_
    | refine ko_gq ?_
    | refine ko_gl ?_
    | refine ko_lts ?_ (fun _ _ => ?_)
    | refine ko_ltx (fun _ => ?_)
    | refine ko_bd ?_ (fun _ _ _ => ?_)
    | refine ko_bv ?_ (fun _ _ => ?_)
    | refine ko_sui (by assumption) ?_
    | refine ko_suj (by assumption) ?_
    | refine ko_suc (by assumption) ?_
    | refine ko_suw (by assumption) ?_
    | refine ko_none
    | (apply hk0; assumption)
  all_goals (intro a k q; have q2 := hP a k q; clear hP q; have q0_ := q2; clear q2)
  all_goals ((repeat' apply And.intro) <;> first | exact trivial | assumption | exact fun e => absurd e.1 (by assumption))

theorem fr_X10_numberHere_34 {P : Nat → Nat → Prop} {σ0 σ : mm_S} {a0 : Nat} {i1 : Int32} {i2 : Int32} {i3 : Int32} {i4 : Int32} (hP : ∀ a k, P a k → ¬ (a = a0 ∧ k = 10) ∧ ¬ (a = a0 ∧ k = 9) ∧ ¬ (a = a0 ∧ k = 8)) (h : ko_K P σ0 σ) : ko Prod.snd P σ0 (f_X10_numberHere_34 a0 i1 i2 i3 i4 σ) := by
  unfold f_X10_numberHere_34
  refine ko_lp (fun rec hrec v τ hτ => ?_) lpN _ _ h
  repeat' with_reducible first
    | assumption
    | refine ko_someV ?_
    | refine ko_someR ?_
    | refine ko_ite ?_ ?_
    | refine ko_gd (fun _ => ?_)
    | refine ko_gz ?_
    | refine ko_gb ?_
    | refine ko_gq ?_
    | refine ko_gl ?_
    | refine ko_lts ?_ (fun _ _ => ?_)
    | refine ko_ltx (fun _ => ?_)
    | refine ko_bd ?_ (fun _ _ _ => ?_)
    | refine ko_bv ?_ (fun _ _ => ?_)
    | refine ko_sui (by assumption) ?_
    | refine ko_suj (by assumption) ?_
    | refine ko_suc (by assumption) ?_
    | refine ko_suw (by assumption) ?_
    | refine ko_none
    | (apply hrec; assumption)
    | (refine fr_X10_isDigit ?_ (by assumption))
    | (refine fr_X10_numberHere_117 ?_ (by assumption))
    | (refine fr_X10_in ?_ (by assumption))
    | (refine fr_X10_numberHere_75 ?_ (by first | exact hrec) (by assumption))
  all_goals (intro a k q; have q2 := hP a k q; clear hP q; obtain ⟨q0_, q1_, q2_⟩ := q2)
  all_goals ((repeat' apply And.intro) <;> first | exact trivial | assumption | exact fun e => absurd e.1 (by assumption))

theorem fr_X10_numberHere {P : Nat → Nat → Prop} {σ0 σ : mm_S} {a0 : Nat} {i1 : Int32} {i2 : Int32} (hP : ∀ a k, P a k → ¬ (a = a0 ∧ k = 8) ∧ ¬ (a = a0 ∧ k = 9) ∧ ¬ (a = a0 ∧ k = 10)) (h : ko_K P σ0 σ) : ko Prod.snd P σ0 (f_X10_numberHere a0 i1 i2 σ) := by
  unfold f_X10_numberHere
  repeat' with_reducible first
    | assumption
    | refine ko_someV ?_
    | refine ko_someR ?_
    | refine ko_ite ?_ ?_
    | refine ko_gd (fun _ => ?_)
    | refine ko_gz ?_
    | refine ko_gb ?_
    | refine ko_gq ?_
    | refine ko_gl ?_
    | refine ko_lts ?_ (fun _ _ => ?_)
    | refine ko_ltx (fun _ => ?_)
    | refine ko_bd ?_ (fun _ _ _ => ?_)
    | refine ko_bv ?_ (fun _ _ => ?_)
    | refine ko_sui (by assumption) ?_
    | refine ko_suj (by assumption) ?_
    | refine ko_suc (by assumption) ?_
    | refine ko_suw (by assumption) ?_
    | refine ko_none
    | (refine fr_X10_see ?_ (by assumption))
    | (refine fr_X10_isDigit ?_ (by assumption))
    | (refine fr_X10_fails ?_ (by assumption))
    | (refine fr_X10_numberHere_34 ?_ (by assumption))
  all_goals (intro a k q; have q2 := hP a k q; clear hP q; obtain ⟨q0_, q1_, q2_⟩ := q2)
  all_goals ((repeat' apply And.intro) <;> first | exact trivial | assumption | exact fun e => absurd e.1 (by assumption))

theorem fr_X10_wordHere {P : Nat → Nat → Prop} {σ0 σ : mm_S} {a0 : Nat} (hP : ∀ a k, P a k → ¬ (a = a0 ∧ k = 8)) (h : ko_K P σ0 σ) : ko Prod.snd P σ0 (f_X10_wordHere a0 σ) := by
  unfold f_X10_wordHere
  repeat' with_reducible first
    | assumption
    | refine ko_someV ?_
    | refine ko_someR ?_
    | refine ko_ite ?_ ?_
    | refine ko_gd (fun _ => ?_)
    | refine ko_gz ?_
    | refine ko_gb ?_
    | refine ko_gq ?_
    | refine ko_gl ?_
    | refine ko_lts ?_ (fun _ _ => ?_)
    | refine ko_ltx (fun _ => ?_)
    | refine ko_bd ?_ (fun _ _ _ => ?_)
    | refine ko_bv ?_ (fun _ _ => ?_)
    | refine ko_sui (by assumption) ?_
    | refine ko_suj (by assumption) ?_
    | refine ko_suc (by assumption) ?_
    | refine ko_suw (by assumption) ?_
    | refine ko_none
    | (refine fr_X10_isWord ?_ (by assumption))
  all_goals (intro a k q; have q2 := hP a k q; clear hP q; have q0_ := q2; clear q2)
  all_goals ((repeat' apply And.intro) <;> first | exact trivial | assumption | exact fun e => absurd e.1 (by assumption))

theorem fr_X10_puts {P : Nat → Nat → Prop} {σ0 σ : mm_S} {a0 : Nat} {i1 : Int32} {i2 : Int32} (hP : ∀ a k, P a k → a ≠ 216 ∧ a ≠ 217) (h : ko_K P σ0 σ) : ko id P σ0 (f_X10_puts a0 i1 i2 σ) := by
  unfold f_X10_puts
  repeat' with_reducible first
    | assumption
    | refine ko_someV ?_
    | refine ko_someR ?_
    | refine ko_ite ?_ ?_
    | refine ko_gd (fun _ => ?_)
    | refine ko_gz ?_
    | refine ko_gb ?_
    | refine ko_gq ?_
    | refine ko_gl ?_
    | refine ko_lts ?_ (fun _ _ => ?_)
    | refine ko_ltx (fun _ => ?_)
    | refine ko_bd ?_ (fun _ _ _ => ?_)
    | refine ko_bv ?_ (fun _ _ => ?_)
    | refine ko_sui (by assumption) ?_
    | refine ko_suj (by assumption) ?_
    | refine ko_suc (by assumption) ?_
    | refine ko_suw (by assumption) ?_
    | refine ko_none
  all_goals (intro a k q; have q2 := hP a k q; clear hP q; obtain ⟨q0_, q1_⟩ := q2)
  all_goals ((repeat' apply And.intro) <;> first | exact trivial | assumption | exact fun e => absurd e.1 (by assumption))

theorem fr_X10_makes {P : Nat → Nat → Prop} {σ0 σ : mm_S} {a0 : Nat} {i1 : Int32} (hP : ∀ a k, P a k → ¬ (a = a0 ∧ k = 12) ∧ ¬ (a = a0 ∧ k = 9)) (h : ko_K P σ0 σ) : ko Prod.snd P σ0 (f_X10_makes a0 i1 σ) := by
  unfold f_X10_makes
  repeat' with_reducible first
    | assumption
    | refine ko_someV ?_
    | refine ko_someR ?_
    | refine ko_ite ?_ ?_
    | refine ko_gd (fun _ => ?_)
    | refine ko_gz ?_
    | refine ko_gb ?_
    | refine ko_gq ?_
    | refine ko_gl ?_
    | refine ko_lts ?_ (fun _ _ => ?_)
    | refine ko_ltx (fun _ => ?_)
    | refine ko_bd ?_ (fun _ _ _ => ?_)
    | refine ko_bv ?_ (fun _ _ => ?_)
    | refine ko_sui (by assumption) ?_
    | refine ko_suj (by assumption) ?_
    | refine ko_suc (by assumption) ?_
    | refine ko_suw (by assumption) ?_
    | refine ko_none
    | (refine fr_X10_fails ?_ (by assumption))
  all_goals (intro a k q; have q2 := hP a k q; clear hP q; obtain ⟨q0_, q1_⟩ := q2)
  all_goals ((repeat' apply And.intro) <;> first | exact trivial | assumption | exact fun e => absurd e.1 (by assumption))

theorem fr_X10_opens {P : Nat → Nat → Prop} {σ0 σ : mm_S} {a0 : Nat} {i1 : Int32} (hP : ∀ a k, P a k → ¬ (a = a0 ∧ k = 13) ∧ a ≠ 221 ∧ ¬ (a = a0 ∧ k = 16) ∧ ¬ (a = a0 ∧ k = 9)) (h : ko_K P σ0 σ) : ko Prod.snd P σ0 (f_X10_opens a0 i1 σ) := by
  unfold f_X10_opens
  repeat' with_reducible first
    | assumption
    | refine ko_someV ?_
    | refine ko_someR ?_
    | refine ko_ite ?_ ?_
    | refine ko_gd (fun _ => ?_)
    | refine ko_gz ?_
    | refine ko_gb ?_
    | refine ko_gq ?_
    | refine ko_gl ?_
    | refine ko_lts ?_ (fun _ _ => ?_)
    | refine ko_ltx (fun _ => ?_)
    | refine ko_bd ?_ (fun _ _ _ => ?_)
    | refine ko_bv ?_ (fun _ _ => ?_)
    | refine ko_sui (by assumption) ?_
    | refine ko_suj (by assumption) ?_
    | refine ko_suc (by assumption) ?_
    | refine ko_suw (by assumption) ?_
    | refine ko_none
    | (refine fr_X10_fails ?_ (by assumption))
  all_goals (intro a k q; have q2 := hP a k q; clear hP q; obtain ⟨q0_, q1_, q2_, q3_⟩ := q2)
  all_goals ((repeat' apply And.intro) <;> first | exact trivial | assumption | exact fun e => absurd e.1 (by assumption))

theorem fr_X10_strength {P : Nat → Nat → Prop} {σ0 σ : mm_S} {i0 : Int32} (hP : ∀ a k, P a k → True) (h : ko_K P σ0 σ) : ko Prod.snd P σ0 (f_X10_strength i0 σ) := by
  unfold f_X10_strength
  repeat' with_reducible first
    | assumption
    | refine ko_someV ?_
    | refine ko_someR ?_
    | refine ko_ite ?_ ?_
    | refine ko_gd (fun _ => ?_)
    | refine ko_gz ?_
    | refine ko_gb ?_
    | refine ko_gq ?_
    | refine ko_gl ?_
    | refine ko_lts ?_ (fun _ _ => ?_)
    | refine ko_ltx (fun _ => ?_)
    | refine ko_bd ?_ (fun _ _ _ => ?_)
    | refine ko_bv ?_ (fun _ _ => ?_)
    | refine ko_sui (by assumption) ?_
    | refine ko_suj (by assumption) ?_
    | refine ko_suc (by assumption) ?_
    | refine ko_suw (by assumption) ?_
    | refine ko_none
  all_goals (intro a k q; have q2 := hP a k q; clear hP q)
  all_goals ((repeat' apply And.intro) <;> first | exact trivial | assumption)

theorem fr_X10_layDown_0 {P : Nat → Nat → Prop} {σ0 σ : mm_S} {a0 : Nat} {i1 : Int32} (hP : ∀ a k, P a k → ¬ (a = a0 ∧ k = 16) ∧ ¬ (a = a0 ∧ k = 13) ∧ a ≠ 216 ∧ a ≠ 217) (h : ko_K P σ0 σ) : ko id P σ0 (f_X10_layDown_0 a0 i1 σ) := by
  unfold f_X10_layDown_0
  refine ko_lp (fun rec hrec v τ hτ => ?_) lpN _ _ h
  repeat' with_reducible first
    | assumption
    | refine ko_someV ?_
    | refine ko_someR ?_
    | refine ko_ite ?_ ?_
    | refine ko_gd (fun _ => ?_)
    | refine ko_gz ?_
    | refine ko_gb ?_
    | refine ko_gq ?_
    | refine ko_gl ?_
    | refine ko_lts ?_ (fun _ _ => ?_)
    | refine ko_ltx (fun _ => ?_)
    | refine ko_bd ?_ (fun _ _ _ => ?_)
    | refine ko_bv ?_ (fun _ _ => ?_)
    | refine ko_sui (by assumption) ?_
    | refine ko_suj (by assumption) ?_
    | refine ko_suc (by assumption) ?_
    | refine ko_suw (by assumption) ?_
    | refine ko_none
    | (apply hrec; assumption)
    | (refine fr_X10_strength ?_ (by assumption))
    | (refine fr_X10_puts ?_ (by assumption))
  all_goals (intro a k q; have q2 := hP a k q; clear hP q; obtain ⟨q0_, q1_, q2_, q3_⟩ := q2)
  all_goals ((repeat' apply And.intro) <;> first | exact trivial | assumption | exact fun e => absurd e.1 (by assumption))

theorem fr_X10_layDown {P : Nat → Nat → Prop} {σ0 σ : mm_S} {a0 : Nat} {i1 : Int32} (hP : ∀ a k, P a k → ¬ (a = a0 ∧ k = 16) ∧ ¬ (a = a0 ∧ k = 13) ∧ a ≠ 216 ∧ a ≠ 217) (h : ko_K P σ0 σ) : ko id P σ0 (f_X10_layDown a0 i1 σ) := by
  unfold f_X10_layDown
  repeat' with_reducible first
    | assumption
    | refine ko_someV ?_
    | refine ko_someR ?_
    | refine ko_ite ?_ ?_
    | refine ko_gd (fun _ => ?_)
    | refine ko_gz ?_
    | refine ko_gb ?_
    | refine ko_gq ?_
    | refine ko_gl ?_
    | refine ko_lts ?_ (fun _ _ => ?_)
    | refine ko_ltx (fun _ => ?_)
    | refine ko_bd ?_ (fun _ _ _ => ?_)
    | refine ko_bv ?_ (fun _ _ => ?_)
    | refine ko_sui (by assumption) ?_
    | refine ko_suj (by assumption) ?_
    | refine ko_suc (by assumption) ?_
    | refine ko_suw (by assumption) ?_
    | refine ko_none
    | (refine fr_X10_layDown_0 ?_ (by assumption))
  all_goals (intro a k q; have q2 := hP a k q; clear hP q; obtain ⟨q0_, q1_, q2_, q3_⟩ := q2)
  all_goals ((repeat' apply And.intro) <;> first | exact trivial | assumption | exact fun e => absurd e.1 (by assumption))

theorem fr_X10_value {P : Nat → Nat → Prop} {σ0 σ : mm_S} {a0 : Nat} (hP : ∀ a k, P a k → ¬ (a = a0 ∧ k = 8) ∧ ¬ (a = a0 ∧ k = 12) ∧ ¬ (a = a0 ∧ k = 9) ∧ a ≠ 216 ∧ a ≠ 217 ∧ ¬ (a = a0 ∧ k = 10)) (h : ko_K P σ0 σ) : ko Prod.snd P σ0 (f_X10_value a0 σ) := by
  unfold f_X10_value
  repeat' with_reducible first
    | assumption
    | refine ko_someV ?_
    | refine ko_someR ?_
    | refine ko_ite ?_ ?_
    | refine ko_gd (fun _ => ?_)
    | refine ko_gz ?_
    | refine ko_gb ?_
    | refine ko_gq ?_
    | refine ko_gl ?_
    | refine ko_lts ?_ (fun _ _ => ?_)
    | refine ko_ltx (fun _ => ?_)
    | refine ko_bd ?_ (fun _ _ _ => ?_)
    | refine ko_bv ?_ (fun _ _ => ?_)
    | refine ko_sui (by assumption) ?_
    | refine ko_suj (by assumption) ?_
    | refine ko_suc (by assumption) ?_
    | refine ko_suw (by assumption) ?_
    | refine ko_none
    | (refine fr_X10_see ?_ (by assumption))
    | (refine fr_X10_isDigit ?_ (by assumption))
    | (refine fr_X10_wordHere ?_ (by assumption))
    | (refine fr_X10_makes ?_ (by assumption))
    | (refine fr_X10_passWord ?_ (by assumption))
    | (refine fr_X10_puts ?_ (by assumption))
    | (refine fr_X10_fails ?_ (by assumption))
    | (refine fr_X10_numberHere ?_ (by assumption))
  all_goals (intro a k q; have q2 := hP a k q; clear hP q; obtain ⟨q0_, q1_, q2_, q3_, q4_, q5_⟩ := q2)
  all_goals ((repeat' apply And.intro) <;> first | exact trivial | assumption | exact fun e => absurd e.1 (by assumption))

theorem fr_X10_term_74 {P : Nat → Nat → Prop} {σ0 σ : mm_S} {k9 : (Unit) → mm_S → Option (Int32 × mm_S)} {a0 : Nat} {s0 : Int32} (hP : ∀ a k, P a k → ¬ (a = a0 ∧ k = 8) ∧ ¬ (a = a0 ∧ k = 12) ∧ ¬ (a = a0 ∧ k = 9) ∧ a ≠ 216 ∧ a ≠ 217 ∧ ¬ (a = a0 ∧ k = 10)) (hk0 : ∀ v τ, ko_K P σ0 τ → ko Prod.snd P σ0 (k9 v τ)) (h : ko_K P σ0 σ) : ko Prod.snd P σ0 (f_X10_term_74 k9 a0 s0 σ) := by
  unfold f_X10_term_74
  repeat' with_reducible first
    | assumption
    | refine ko_someV ?_
    | refine ko_someR ?_
    | refine ko_ite ?_ ?_
    | refine ko_gd (fun _ => ?_)
    | refine ko_gz ?_
    | refine ko_gb ?_
    | refine ko_gq ?_
    | refine ko_gl ?_
    | refine ko_lts ?_ (fun _ _ => ?_)
    | refine ko_ltx (fun _ => ?_)
    | refine ko_bd ?_ (fun _ _ _ => ?_)
    | refine ko_bv ?_ (fun _ _ => ?_)
    | refine ko_sui (by assumption) ?_
    | refine ko_suj (by assumption) ?_
    | refine ko_suc (by assumption) ?_
    | refine ko_suw (by assumption) ?_
    | refine ko_none
    | (apply hk0; assumption)
    | (refine fr_X10_value ?_ (by assumption))
    | (refine fr_X10_puts ?_ (by assumption))
  all_goals (intro a k q; have q2 := hP a k q; clear hP q; obtain ⟨q0_, q1_, q2_, q3_, q4_, q5_⟩ := q2)
  all_goals ((repeat' apply And.intro) <;> first | exact trivial | assumption | exact fun e => absurd e.1 (by assumption))

theorem fr_X10_term_36 {P : Nat → Nat → Prop} {σ0 σ : mm_S} {k9 : (Unit) → mm_S → Option (Int32 × mm_S)} {a0 : Nat} (hP : ∀ a k, P a k → ¬ (a = a0 ∧ k = 8) ∧ ¬ (a = a0 ∧ k = 12) ∧ ¬ (a = a0 ∧ k = 9) ∧ a ≠ 216 ∧ a ≠ 217 ∧ ¬ (a = a0 ∧ k = 10)) (hk0 : ∀ v τ, ko_K P σ0 τ → ko Prod.snd P σ0 (k9 v τ)) (h : ko_K P σ0 σ) : ko Prod.snd P σ0 (f_X10_term_36 k9 a0 σ) := by
  unfold f_X10_term_36
  repeat' with_reducible first
    | assumption
    | refine ko_someV ?_
    | refine ko_someR ?_
    | refine ko_ite ?_ ?_
    | refine ko_gd (fun _ => ?_)
    | refine ko_gz ?_
    | refine ko_gb ?_
    | refine ko_gq ?_
    | refine ko_gl ?_
    | refine ko_lts ?_ (fun _ _ => ?_)
    | refine ko_ltx (fun _ => ?_)
    | refine ko_bd ?_ (fun _ _ _ => ?_)
    | refine ko_bv ?_ (fun _ _ => ?_)
    | refine ko_sui (by assumption) ?_
    | refine ko_suj (by assumption) ?_
    | refine ko_suc (by assumption) ?_
    | refine ko_suw (by assumption) ?_
    | refine ko_none
    | (apply hk0; assumption)
    | (refine fr_X10_term_74 ?_ (by first | exact hk0) (by assumption))
  all_goals (intro a k q; have q2 := hP a k q; clear hP q; obtain ⟨q0_, q1_, q2_, q3_, q4_, q5_⟩ := q2)
  all_goals ((repeat' apply And.intro) <;> first | exact trivial | assumption | exact fun e => absurd e.1 (by assumption))

theorem fr_X10_term_9 {P : Nat → Nat → Prop} {σ0 σ : mm_S} {a0 : Nat} (hP : ∀ a k, P a k → ¬ (a = a0 ∧ k = 8) ∧ ¬ (a = a0 ∧ k = 12) ∧ ¬ (a = a0 ∧ k = 9) ∧ a ≠ 216 ∧ a ≠ 217 ∧ ¬ (a = a0 ∧ k = 10)) (h : ko_K P σ0 σ) : ko Prod.snd P σ0 (f_X10_term_9 a0 σ) := by
  unfold f_X10_term_9
  refine ko_lp (fun rec hrec v τ hτ => ?_) lpN _ _ h
  repeat' with_reducible first
    | assumption
    | refine ko_someV ?_
    | refine ko_someR ?_
    | refine ko_ite ?_ ?_
    | refine ko_gd (fun _ => ?_)
    | refine ko_gz ?_
    | refine ko_gb ?_
    | refine ko_gq ?_
    | refine ko_gl ?_
    | refine ko_lts ?_ (fun _ _ => ?_)
    | refine ko_ltx (fun _ => ?_)
    | refine ko_bd ?_ (fun _ _ _ => ?_)
    | refine ko_bv ?_ (fun _ _ => ?_)
    | refine ko_sui (by assumption) ?_
    | refine ko_suj (by assumption) ?_
    | refine ko_suc (by assumption) ?_
    | refine ko_suw (by assumption) ?_
    | refine ko_none
    | (apply hrec; assumption)
    | (refine fr_X10_see ?_ (by assumption))
    | (refine fr_X10_term_36 ?_ (by first | exact hrec) (by assumption))
  all_goals (intro a k q; have q2 := hP a k q; clear hP q; obtain ⟨q0_, q1_, q2_, q3_, q4_, q5_⟩ := q2)
  all_goals ((repeat' apply And.intro) <;> first | exact trivial | assumption | exact fun e => absurd e.1 (by assumption))

theorem fr_X10_term {P : Nat → Nat → Prop} {σ0 σ : mm_S} {a0 : Nat} (hP : ∀ a k, P a k → ¬ (a = a0 ∧ k = 8) ∧ ¬ (a = a0 ∧ k = 12) ∧ ¬ (a = a0 ∧ k = 9) ∧ a ≠ 216 ∧ a ≠ 217 ∧ ¬ (a = a0 ∧ k = 10)) (h : ko_K P σ0 σ) : ko Prod.snd P σ0 (f_X10_term a0 σ) := by
  unfold f_X10_term
  repeat' with_reducible first
    | assumption
    | refine ko_someV ?_
    | refine ko_someR ?_
    | refine ko_ite ?_ ?_
    | refine ko_gd (fun _ => ?_)
    | refine ko_gz ?_
    | refine ko_gb ?_
    | refine ko_gq ?_
    | refine ko_gl ?_
    | refine ko_lts ?_ (fun _ _ => ?_)
    | refine ko_ltx (fun _ => ?_)
    | refine ko_bd ?_ (fun _ _ _ => ?_)
    | refine ko_bv ?_ (fun _ _ => ?_)
    | refine ko_sui (by assumption) ?_
    | refine ko_suj (by assumption) ?_
    | refine ko_suc (by assumption) ?_
    | refine ko_suw (by assumption) ?_
    | refine ko_none
    | (refine fr_X10_value ?_ (by assumption))
    | (refine fr_X10_term_9 ?_ (by assumption))
  all_goals (intro a k q; have q2 := hP a k q; clear hP q; obtain ⟨q0_, q1_, q2_, q3_, q4_, q5_⟩ := q2)
  all_goals ((repeat' apply And.intro) <;> first | exact trivial | assumption | exact fun e => absurd e.1 (by assumption))

theorem fr_X10_sum_46 {P : Nat → Nat → Prop} {σ0 σ : mm_S} {k9 : (Unit) → mm_S → Option (Int32 × mm_S)} {a0 : Nat} {s0 : Int32} (hP : ∀ a k, P a k → ¬ (a = a0 ∧ k = 8) ∧ ¬ (a = a0 ∧ k = 12) ∧ ¬ (a = a0 ∧ k = 9) ∧ a ≠ 216 ∧ a ≠ 217 ∧ ¬ (a = a0 ∧ k = 10)) (hk0 : ∀ v τ, ko_K P σ0 τ → ko Prod.snd P σ0 (k9 v τ)) (h : ko_K P σ0 σ) : ko Prod.snd P σ0 (f_X10_sum_46 k9 a0 s0 σ) := by
  unfold f_X10_sum_46
  repeat' with_reducible first
    | assumption
    | refine ko_someV ?_
    | refine ko_someR ?_
    | refine ko_ite ?_ ?_
    | refine ko_gd (fun _ => ?_)
    | refine ko_gz ?_
    | refine ko_gb ?_
    | refine ko_gq ?_
    | refine ko_gl ?_
    | refine ko_lts ?_ (fun _ _ => ?_)
    | refine ko_ltx (fun _ => ?_)
    | refine ko_bd ?_ (fun _ _ _ => ?_)
    | refine ko_bv ?_ (fun _ _ => ?_)
    | refine ko_sui (by assumption) ?_
    | refine ko_suj (by assumption) ?_
    | refine ko_suc (by assumption) ?_
    | refine ko_suw (by assumption) ?_
    | refine ko_none
    | (apply hk0; assumption)
    | (refine fr_X10_term ?_ (by assumption))
    | (refine fr_X10_puts ?_ (by assumption))
  all_goals (intro a k q; have q2 := hP a k q; clear hP q; obtain ⟨q0_, q1_, q2_, q3_, q4_, q5_⟩ := q2)
  all_goals ((repeat' apply And.intro) <;> first | exact trivial | assumption | exact fun e => absurd e.1 (by assumption))

theorem fr_X10_sum_27 {P : Nat → Nat → Prop} {σ0 σ : mm_S} {k9 : (Unit) → mm_S → Option (Int32 × mm_S)} {a0 : Nat} (hP : ∀ a k, P a k → ¬ (a = a0 ∧ k = 8) ∧ ¬ (a = a0 ∧ k = 12) ∧ ¬ (a = a0 ∧ k = 9) ∧ a ≠ 216 ∧ a ≠ 217 ∧ ¬ (a = a0 ∧ k = 10)) (hk0 : ∀ v τ, ko_K P σ0 τ → ko Prod.snd P σ0 (k9 v τ)) (h : ko_K P σ0 σ) : ko Prod.snd P σ0 (f_X10_sum_27 k9 a0 σ) := by
  unfold f_X10_sum_27
  repeat' with_reducible first
    | assumption
    | refine ko_someV ?_
    | refine ko_someR ?_
    | refine ko_ite ?_ ?_
    | refine ko_gd (fun _ => ?_)
    | refine ko_gz ?_
    | refine ko_gb ?_
    | refine ko_gq ?_
    | refine ko_gl ?_
    | refine ko_lts ?_ (fun _ _ => ?_)
    | refine ko_ltx (fun _ => ?_)
    | refine ko_bd ?_ (fun _ _ _ => ?_)
    | refine ko_bv ?_ (fun _ _ => ?_)
    | refine ko_sui (by assumption) ?_
    | refine ko_suj (by assumption) ?_
    | refine ko_suc (by assumption) ?_
    | refine ko_suw (by assumption) ?_
    | refine ko_none
    | (apply hk0; assumption)
    | (refine fr_X10_sum_46 ?_ (by first | exact hk0) (by assumption))
  all_goals (intro a k q; have q2 := hP a k q; clear hP q; obtain ⟨q0_, q1_, q2_, q3_, q4_, q5_⟩ := q2)
  all_goals ((repeat' apply And.intro) <;> first | exact trivial | assumption | exact fun e => absurd e.1 (by assumption))

theorem fr_X10_sum_9 {P : Nat → Nat → Prop} {σ0 σ : mm_S} {a0 : Nat} (hP : ∀ a k, P a k → ¬ (a = a0 ∧ k = 8) ∧ ¬ (a = a0 ∧ k = 12) ∧ ¬ (a = a0 ∧ k = 9) ∧ a ≠ 216 ∧ a ≠ 217 ∧ ¬ (a = a0 ∧ k = 10)) (h : ko_K P σ0 σ) : ko Prod.snd P σ0 (f_X10_sum_9 a0 σ) := by
  unfold f_X10_sum_9
  refine ko_lp (fun rec hrec v τ hτ => ?_) lpN _ _ h
  repeat' with_reducible first
    | assumption
    | refine ko_someV ?_
    | refine ko_someR ?_
    | refine ko_ite ?_ ?_
    | refine ko_gd (fun _ => ?_)
    | refine ko_gz ?_
    | refine ko_gb ?_
    | refine ko_gq ?_
    | refine ko_gl ?_
    | refine ko_lts ?_ (fun _ _ => ?_)
    | refine ko_ltx (fun _ => ?_)
    | refine ko_bd ?_ (fun _ _ _ => ?_)
    | refine ko_bv ?_ (fun _ _ => ?_)
    | refine ko_sui (by assumption) ?_
    | refine ko_suj (by assumption) ?_
    | refine ko_suc (by assumption) ?_
    | refine ko_suw (by assumption) ?_
    | refine ko_none
    | (apply hrec; assumption)
    | (refine fr_X10_see ?_ (by assumption))
    | (refine fr_X10_sum_27 ?_ (by first | exact hrec) (by assumption))
  all_goals (intro a k q; have q2 := hP a k q; clear hP q; obtain ⟨q0_, q1_, q2_, q3_, q4_, q5_⟩ := q2)
  all_goals ((repeat' apply And.intro) <;> first | exact trivial | assumption | exact fun e => absurd e.1 (by assumption))

theorem fr_X10_sum {P : Nat → Nat → Prop} {σ0 σ : mm_S} {a0 : Nat} (hP : ∀ a k, P a k → ¬ (a = a0 ∧ k = 8) ∧ ¬ (a = a0 ∧ k = 12) ∧ ¬ (a = a0 ∧ k = 9) ∧ a ≠ 216 ∧ a ≠ 217 ∧ ¬ (a = a0 ∧ k = 10)) (h : ko_K P σ0 σ) : ko Prod.snd P σ0 (f_X10_sum a0 σ) := by
  unfold f_X10_sum
  repeat' with_reducible first
    | assumption
    | refine ko_someV ?_
    | refine ko_someR ?_
    | refine ko_ite ?_ ?_
    | refine ko_gd (fun _ => ?_)
    | refine ko_gz ?_
    | refine ko_gb ?_
    | refine ko_gq ?_
    | refine ko_gl ?_
    | refine ko_lts ?_ (fun _ _ => ?_)
    | refine ko_ltx (fun _ => ?_)
    | refine ko_bd ?_ (fun _ _ _ => ?_)
    | refine ko_bv ?_ (fun _ _ => ?_)
    | refine ko_sui (by assumption) ?_
    | refine ko_suj (by assumption) ?_
    | refine ko_suc (by assumption) ?_
    | refine ko_suw (by assumption) ?_
    | refine ko_none
    | (refine fr_X10_term ?_ (by assumption))
    | (refine fr_X10_sum_9 ?_ (by assumption))
  all_goals (intro a k q; have q2 := hP a k q; clear hP q; obtain ⟨q0_, q1_, q2_, q3_, q4_, q5_⟩ := q2)
  all_goals ((repeat' apply And.intro) <;> first | exact trivial | assumption | exact fun e => absurd e.1 (by assumption))

theorem fr_X10_compare_152 {P : Nat → Nat → Prop} {σ0 σ : mm_S} {a0 : Nat} {s0 : Int32} (hP : ∀ a k, P a k → ¬ (a = a0 ∧ k = 8) ∧ ¬ (a = a0 ∧ k = 12) ∧ ¬ (a = a0 ∧ k = 9) ∧ a ≠ 216 ∧ a ≠ 217 ∧ ¬ (a = a0 ∧ k = 10)) (h : ko_K P σ0 σ) : ko Prod.snd P σ0 (f_X10_compare_152 a0 s0 σ) := by
  unfold f_X10_compare_152
  repeat' with_reducible first
    | assumption
    | refine ko_someV ?_
    | refine ko_someR ?_
    | refine ko_ite ?_ ?_
    | refine ko_gd (fun _ => ?_)
    | refine ko_gz ?_
    | refine ko_gb ?_
    | refine ko_gq ?_
    | refine ko_gl ?_
    | refine ko_lts ?_ (fun _ _ => ?_)
    | refine ko_ltx (fun _ => ?_)
    | refine ko_bd ?_ (fun _ _ _ => ?_)
    | refine ko_bv ?_ (fun _ _ => ?_)
    | refine ko_sui (by assumption) ?_
    | refine ko_suj (by assumption) ?_
    | refine ko_suc (by assumption) ?_
    | refine ko_suw (by assumption) ?_
    | refine ko_none
    | (refine fr_X10_sum ?_ (by assumption))
    | (refine fr_X10_puts ?_ (by assumption))
  all_goals (intro a k q; have q2 := hP a k q; clear hP q; obtain ⟨q0_, q1_, q2_, q3_, q4_, q5_⟩ := q2)
  all_goals ((repeat' apply And.intro) <;> first | exact trivial | assumption | exact fun e => absurd e.1 (by assumption))

theorem fr_X10_compare_105 {P : Nat → Nat → Prop} {σ0 σ : mm_S} {a0 : Nat} {i1 : Int32} {i2 : Int32} {i3 : Int32} (hP : ∀ a k, P a k → ¬ (a = a0 ∧ k = 12) ∧ ¬ (a = a0 ∧ k = 9) ∧ ¬ (a = a0 ∧ k = 8) ∧ a ≠ 216 ∧ a ≠ 217 ∧ ¬ (a = a0 ∧ k = 10)) (h : ko_K P σ0 σ) : ko Prod.snd P σ0 (f_X10_compare_105 a0 i1 i2 i3 σ) := by
  unfold f_X10_compare_105
  repeat' with_reducible first
    | assumption
    | refine ko_someV ?_
    | refine ko_someR ?_
    | refine ko_ite ?_ ?_
    | refine ko_gd (fun _ => ?_)
    | refine ko_gz ?_
    | refine ko_gb ?_
    | refine ko_gq ?_
    | refine ko_gl ?_
    | refine ko_lts ?_ (fun _ _ => ?_)
    | refine ko_ltx (fun _ => ?_)
    | refine ko_bd ?_ (fun _ _ _ => ?_)
    | refine ko_bv ?_ (fun _ _ => ?_)
    | refine ko_sui (by assumption) ?_
    | refine ko_suj (by assumption) ?_
    | refine ko_suc (by assumption) ?_
    | refine ko_suw (by assumption) ?_
    | refine ko_none
    | (refine fr_X10_makes ?_ (by assumption))
    | (refine fr_X10_compare_152 ?_ (by assumption))
  all_goals (intro a k q; have q2 := hP a k q; clear hP q; obtain ⟨q0_, q1_, q2_, q3_, q4_, q5_⟩ := q2)
  all_goals ((repeat' apply And.intro) <;> first | exact trivial | assumption | exact fun e => absurd e.1 (by assumption))

theorem fr_X10_compare_90 {P : Nat → Nat → Prop} {σ0 σ : mm_S} {a0 : Nat} {i1 : Int32} {i2 : Int32} {s0 : Int32} (hP : ∀ a k, P a k → ¬ (a = a0 ∧ k = 8) ∧ ¬ (a = a0 ∧ k = 12) ∧ ¬ (a = a0 ∧ k = 9) ∧ a ≠ 216 ∧ a ≠ 217 ∧ ¬ (a = a0 ∧ k = 10)) (h : ko_K P σ0 σ) : ko Prod.snd P σ0 (f_X10_compare_90 a0 i1 i2 s0 σ) := by
  unfold f_X10_compare_90
  repeat' with_reducible first
    | assumption
    | refine ko_someV ?_
    | refine ko_someR ?_
    | refine ko_ite ?_ ?_
    | refine ko_gd (fun _ => ?_)
    | refine ko_gz ?_
    | refine ko_gb ?_
    | refine ko_gq ?_
    | refine ko_gl ?_
    | refine ko_lts ?_ (fun _ _ => ?_)
    | refine ko_ltx (fun _ => ?_)
    | refine ko_bd ?_ (fun _ _ _ => ?_)
    | refine ko_bv ?_ (fun _ _ => ?_)
    | refine ko_sui (by assumption) ?_
    | refine ko_suj (by assumption) ?_
    | refine ko_suc (by assumption) ?_
    | refine ko_suw (by assumption) ?_
    | refine ko_none
    | (refine fr_X10_compare_105 ?_ (by assumption))
  all_goals (intro a k q; have q2 := hP a k q; clear hP q; obtain ⟨q0_, q1_, q2_, q3_, q4_, q5_⟩ := q2)
  all_goals ((repeat' apply And.intro) <;> first | exact trivial | assumption | exact fun e => absurd e.1 (by assumption))

theorem fr_X10_compare_44 {P : Nat → Nat → Prop} {σ0 σ : mm_S} {a0 : Nat} {i1 : Int32} {i2 : Int32} (hP : ∀ a k, P a k → ¬ (a = a0 ∧ k = 8) ∧ ¬ (a = a0 ∧ k = 12) ∧ ¬ (a = a0 ∧ k = 9) ∧ a ≠ 216 ∧ a ≠ 217 ∧ ¬ (a = a0 ∧ k = 10)) (h : ko_K P σ0 σ) : ko Prod.snd P σ0 (f_X10_compare_44 a0 i1 i2 σ) := by
  unfold f_X10_compare_44
  repeat' with_reducible first
    | assumption
    | refine ko_someV ?_
    | refine ko_someR ?_
    | refine ko_ite ?_ ?_
    | refine ko_gd (fun _ => ?_)
    | refine ko_gz ?_
    | refine ko_gb ?_
    | refine ko_gq ?_
    | refine ko_gl ?_
    | refine ko_lts ?_ (fun _ _ => ?_)
    | refine ko_ltx (fun _ => ?_)
    | refine ko_bd ?_ (fun _ _ _ => ?_)
    | refine ko_bv ?_ (fun _ _ => ?_)
    | refine ko_sui (by assumption) ?_
    | refine ko_suj (by assumption) ?_
    | refine ko_suc (by assumption) ?_
    | refine ko_suw (by assumption) ?_
    | refine ko_none
    | (refine fr_X10_compare_90 ?_ (by assumption))
  all_goals (intro a k q; have q2 := hP a k q; clear hP q; obtain ⟨q0_, q1_, q2_, q3_, q4_, q5_⟩ := q2)
  all_goals ((repeat' apply And.intro) <;> first | exact trivial | assumption | exact fun e => absurd e.1 (by assumption))

theorem fr_X10_compare {P : Nat → Nat → Prop} {σ0 σ : mm_S} {a0 : Nat} (hP : ∀ a k, P a k → ¬ (a = a0 ∧ k = 8) ∧ ¬ (a = a0 ∧ k = 12) ∧ ¬ (a = a0 ∧ k = 9) ∧ a ≠ 216 ∧ a ≠ 217 ∧ ¬ (a = a0 ∧ k = 10)) (h : ko_K P σ0 σ) : ko Prod.snd P σ0 (f_X10_compare a0 σ) := by
  unfold f_X10_compare
  repeat' with_reducible first
    | assumption
    | refine ko_someV ?_
    | refine ko_someR ?_
    | refine ko_ite ?_ ?_
    | refine ko_gd (fun _ => ?_)
    | refine ko_gz ?_
    | refine ko_gb ?_
    | refine ko_gq ?_
    | refine ko_gl ?_
    | refine ko_lts ?_ (fun _ _ => ?_)
    | refine ko_ltx (fun _ => ?_)
    | refine ko_bd ?_ (fun _ _ _ => ?_)
    | refine ko_bv ?_ (fun _ _ => ?_)
    | refine ko_sui (by assumption) ?_
    | refine ko_suj (by assumption) ?_
    | refine ko_suc (by assumption) ?_
    | refine ko_suw (by assumption) ?_
    | refine ko_none
    | (refine fr_X10_sum ?_ (by assumption))
    | (refine fr_X10_see ?_ (by assumption))
    | (refine fr_X10_compare_44 ?_ (by assumption))
    | (refine fr_X10_fails ?_ (by assumption))
  all_goals (intro a k q; have q2 := hP a k q; clear hP q; obtain ⟨q0_, q1_, q2_, q3_, q4_, q5_⟩ := q2)
  all_goals ((repeat' apply And.intro) <;> first | exact trivial | assumption | exact fun e => absurd e.1 (by assumption))

theorem fr_X10_fact_2 {P : Nat → Nat → Prop} {σ0 σ : mm_S} {a0 : Nat} {i1 : Int32} (hP : ∀ a k, P a k → ¬ (a = a0 ∧ k = 8) ∧ ¬ (a = a0 ∧ k = 12) ∧ ¬ (a = a0 ∧ k = 9) ∧ a ≠ 216 ∧ a ≠ 217 ∧ ¬ (a = a0 ∧ k = 10) ∧ ¬ (a = a0 ∧ k = 13) ∧ a ≠ 221 ∧ ¬ (a = a0 ∧ k = 16)) (h : ko_K P σ0 σ) : ko Prod.snd P σ0 (f_X10_fact_2 a0 i1 σ) := by
  unfold f_X10_fact_2
  refine ko_lp (fun rec hrec v τ hτ => ?_) lpN _ _ h
  repeat' with_reducible first
    | assumption
    | refine ko_someV ?_
    | refine ko_someR ?_
    | refine ko_ite ?_ ?_
    | refine ko_gd (fun _ => ?_)
    | refine ko_gz ?_
    | refine ko_gb ?_
    | refine ko_gq ?_
    | refine ko_gl ?_
    | refine ko_lts ?_ (fun _ _ => ?_)
    | refine ko_ltx (fun _ => ?_)
    | refine ko_bd ?_ (fun _ _ _ => ?_)
    | refine ko_bv ?_ (fun _ _ => ?_)
    | refine ko_sui (by assumption) ?_
    | refine ko_suj (by assumption) ?_
    | refine ko_suc (by assumption) ?_
    | refine ko_suw (by assumption) ?_
    | refine ko_none
    | (apply hrec; assumption)
    | (refine fr_X10_compare ?_ (by assumption))
    | (refine fr_X10_see ?_ (by assumption))
    | (refine fr_X10_isWord ?_ (by assumption))
    | (refine fr_X10_opens ?_ (by assumption))
    | (refine fr_X10_passWord ?_ (by assumption))
  all_goals (intro a k q; have q2 := hP a k q; clear hP q; obtain ⟨q0_, q1_, q2_, q3_, q4_, q5_, q6_, q7_, q8_⟩ := q2)
  all_goals ((repeat' apply And.intro) <;> first | exact trivial | assumption | exact fun e => absurd e.1 (by assumption))

theorem fr_X10_fact {P : Nat → Nat → Prop} {σ0 σ : mm_S} {a0 : Nat} (hP : ∀ a k, P a k → ¬ (a = a0 ∧ k = 8) ∧ ¬ (a = a0 ∧ k = 12) ∧ ¬ (a = a0 ∧ k = 9) ∧ a ≠ 216 ∧ a ≠ 217 ∧ ¬ (a = a0 ∧ k = 10) ∧ ¬ (a = a0 ∧ k = 13) ∧ a ≠ 221 ∧ ¬ (a = a0 ∧ k = 16)) (h : ko_K P σ0 σ) : ko Prod.snd P σ0 (f_X10_fact a0 σ) := by
  unfold f_X10_fact
  repeat' with_reducible first
    | assumption
    | refine ko_someV ?_
    | refine ko_someR ?_
    | refine ko_ite ?_ ?_
    | refine ko_gd (fun _ => ?_)
    | refine ko_gz ?_
    | refine ko_gb ?_
    | refine ko_gq ?_
    | refine ko_gl ?_
    | refine ko_lts ?_ (fun _ _ => ?_)
    | refine ko_ltx (fun _ => ?_)
    | refine ko_bd ?_ (fun _ _ _ => ?_)
    | refine ko_bv ?_ (fun _ _ => ?_)
    | refine ko_sui (by assumption) ?_
    | refine ko_suj (by assumption) ?_
    | refine ko_suc (by assumption) ?_
    | refine ko_suw (by assumption) ?_
    | refine ko_none
    | (refine fr_X10_fact_2 ?_ (by assumption))
  all_goals (intro a k q; have q2 := hP a k q; clear hP q; obtain ⟨q0_, q1_, q2_, q3_, q4_, q5_, q6_, q7_, q8_⟩ := q2)
  all_goals ((repeat' apply And.intro) <;> first | exact trivial | assumption | exact fun e => absurd e.1 (by assumption))

theorem fr_X10_isInside_2 {P : Nat → Nat → Prop} {σ0 σ : mm_S} {a0 : Nat} {i1 : Int32} (hP : ∀ a k, P a k → True) (h : ko_K P σ0 σ) : ko Prod.snd P σ0 (f_X10_isInside_2 a0 i1 σ) := by
  unfold f_X10_isInside_2
  refine ko_lp (fun rec hrec v τ hτ => ?_) lpN _ _ h
  repeat' with_reducible first
    | assumption
    | refine ko_someV ?_
    | refine ko_someR ?_
    | refine ko_ite ?_ ?_
    | refine ko_gd (fun _ => ?_)
    | refine ko_gz ?_
    | refine ko_gb ?_
    | refine ko_gq ?_
    | refine ko_gl ?_
    | refine ko_lts ?_ (fun _ _ => ?_)
    | refine ko_ltx (fun _ => ?_)
    | refine ko_bd ?_ (fun _ _ _ => ?_)
    | refine ko_bv ?_ (fun _ _ => ?_)
    | refine ko_sui (by assumption) ?_
    | refine ko_suj (by assumption) ?_
    | refine ko_suc (by assumption) ?_
    | refine ko_suw (by assumption) ?_
    | refine ko_none
    | (apply hrec; assumption)
  all_goals (intro a k q; have q2 := hP a k q; clear hP q)
  all_goals ((repeat' apply And.intro) <;> first | exact trivial | assumption)

theorem fr_X10_isInside {P : Nat → Nat → Prop} {σ0 σ : mm_S} {a0 : Nat} (hP : ∀ a k, P a k → True) (h : ko_K P σ0 σ) : ko Prod.snd P σ0 (f_X10_isInside a0 σ) := by
  unfold f_X10_isInside
  repeat' with_reducible first
    | assumption
    | refine ko_someV ?_
    | refine ko_someR ?_
    | refine ko_ite ?_ ?_
    | refine ko_gd (fun _ => ?_)
    | refine ko_gz ?_
    | refine ko_gb ?_
    | refine ko_gq ?_
    | refine ko_gl ?_
    | refine ko_lts ?_ (fun _ _ => ?_)
    | refine ko_ltx (fun _ => ?_)
    | refine ko_bd ?_ (fun _ _ _ => ?_)
    | refine ko_bv ?_ (fun _ _ => ?_)
    | refine ko_sui (by assumption) ?_
    | refine ko_suj (by assumption) ?_
    | refine ko_suc (by assumption) ?_
    | refine ko_suw (by assumption) ?_
    | refine ko_none
    | (refine fr_X10_isInside_2 ?_ (by assumption))
  all_goals (intro a k q; have q2 := hP a k q; clear hP q)
  all_goals ((repeat' apply And.intro) <;> first | exact trivial | assumption)

theorem fr_X10_closes_5 {P : Nat → Nat → Prop} {σ0 σ : mm_S} {a0 : Nat} (hP : ∀ a k, P a k → ¬ (a = a0 ∧ k = 16) ∧ ¬ (a = a0 ∧ k = 13) ∧ ¬ (a = a0 ∧ k = 8) ∧ a ≠ 216 ∧ a ≠ 217) (h : ko_K P σ0 σ) : ko id P σ0 (f_X10_closes_5 a0 σ) := by
  unfold f_X10_closes_5
  refine ko_lp (fun rec hrec v τ hτ => ?_) lpN _ _ h
  repeat' with_reducible first
    | assumption
    | refine ko_someV ?_
    | refine ko_someR ?_
    | refine ko_ite ?_ ?_
    | refine ko_gd (fun _ => ?_)
    | refine ko_gz ?_
    | refine ko_gb ?_
    | refine ko_gq ?_
    | refine ko_gl ?_
    | refine ko_lts ?_ (fun _ _ => ?_)
    | refine ko_ltx (fun _ => ?_)
    | refine ko_bd ?_ (fun _ _ _ => ?_)
    | refine ko_bv ?_ (fun _ _ => ?_)
    | refine ko_sui (by assumption) ?_
    | refine ko_suj (by assumption) ?_
    | refine ko_suc (by assumption) ?_
    | refine ko_suw (by assumption) ?_
    | refine ko_none
    | (apply hrec; assumption)
    | (refine fr_X10_see ?_ (by assumption))
    | (refine fr_X10_isInside ?_ (by assumption))
    | (refine fr_X10_layDown ?_ (by assumption))
  all_goals (intro a k q; have q2 := hP a k q; clear hP q; obtain ⟨q0_, q1_, q2_, q3_, q4_⟩ := q2)
  all_goals ((repeat' apply And.intro) <;> first | exact trivial | assumption | exact fun e => absurd e.1 (by assumption))

theorem fr_X10_closes {P : Nat → Nat → Prop} {σ0 σ : mm_S} {a0 : Nat} (hP : ∀ a k, P a k → ¬ (a = a0 ∧ k = 16) ∧ ¬ (a = a0 ∧ k = 13) ∧ a ≠ 216 ∧ a ≠ 217 ∧ ¬ (a = a0 ∧ k = 8)) (h : ko_K P σ0 σ) : ko id P σ0 (f_X10_closes a0 σ) := by
  unfold f_X10_closes
  repeat' with_reducible first
    | assumption
    | refine ko_someV ?_
    | refine ko_someR ?_
    | refine ko_ite ?_ ?_
    | refine ko_gd (fun _ => ?_)
    | refine ko_gz ?_
    | refine ko_gb ?_
    | refine ko_gq ?_
    | refine ko_gl ?_
    | refine ko_lts ?_ (fun _ _ => ?_)
    | refine ko_ltx (fun _ => ?_)
    | refine ko_bd ?_ (fun _ _ _ => ?_)
    | refine ko_bv ?_ (fun _ _ => ?_)
    | refine ko_sui (by assumption) ?_
    | refine ko_suj (by assumption) ?_
    | refine ko_suc (by assumption) ?_
    | refine ko_suw (by assumption) ?_
    | refine ko_none
    | (refine fr_X10_layDown ?_ (by assumption))
    | (refine fr_X10_closes_5 ?_ (by assumption))
  all_goals (intro a k q; have q2 := hP a k q; clear hP q; obtain ⟨q0_, q1_, q2_, q3_, q4_⟩ := q2)
  all_goals ((repeat' apply And.intro) <;> first | exact trivial | assumption | exact fun e => absurd e.1 (by assumption))

theorem fr_X10_tested_76 {P : Nat → Nat → Prop} {σ0 σ : mm_S} {k12 : (Int32) → mm_S → Option (Int32 × mm_S)} {a0 : Nat} {i1 : Int32} {s0 : Int32} (hP : ∀ a k, P a k → a ≠ 221 ∧ ¬ (a = a0 ∧ k = 16) ∧ ¬ (a = a0 ∧ k = 8) ∧ ¬ (a = a0 ∧ k = 13) ∧ a ≠ 216 ∧ a ≠ 217) (hk0 : ∀ v τ, ko_K P σ0 τ → ko Prod.snd P σ0 (k12 v τ)) (h : ko_K P σ0 σ) : ko Prod.snd P σ0 (f_X10_tested_76 k12 a0 i1 s0 σ) := by
  unfold f_X10_tested_76
  repeat' with_reducible first
    | assumption
    | refine ko_someV ?_
    | refine ko_someR ?_
    | refine ko_ite ?_ ?_
    | refine ko_gd (fun _ => ?_)
    | refine ko_gz ?_
    | refine ko_gb ?_
    | refine ko_gq ?_
    | refine ko_gl ?_
    | refine ko_lts ?_ (fun _ _ => ?_)
    | refine ko_ltx (fun _ => ?_)
    | refine ko_bd ?_ (fun _ _ _ => ?_)
    | refine ko_bv ?_ (fun _ _ => ?_)
    | refine ko_sui (by assumption) ?_
    | refine ko_suj (by assumption) ?_
    | refine ko_suc (by assumption) ?_
    | refine ko_suw (by assumption) ?_
    | refine ko_none
    | (apply hk0; assumption)
    | (refine fr_X10_passWord ?_ (by assumption))
    | (refine fr_X10_strength ?_ (by assumption))
    | (refine fr_X10_layDown ?_ (by assumption))
  all_goals (intro a k q; have q2 := hP a k q; clear hP q; obtain ⟨q0_, q1_, q2_, q3_, q4_, q5_⟩ := q2)
  all_goals ((repeat' apply And.intro) <;> first | exact trivial | assumption | exact fun e => absurd e.1 (by assumption))

theorem fr_X10_tested_54 {P : Nat → Nat → Prop} {σ0 σ : mm_S} {k12 : (Int32) → mm_S → Option (Int32 × mm_S)} {a0 : Nat} {s0 : Int32} (hP : ∀ a k, P a k → ¬ (a = a0 ∧ k = 8) ∧ a ≠ 221 ∧ ¬ (a = a0 ∧ k = 16) ∧ ¬ (a = a0 ∧ k = 13) ∧ a ≠ 216 ∧ a ≠ 217) (hk0 : ∀ v τ, ko_K P σ0 τ → ko Prod.snd P σ0 (k12 v τ)) (h : ko_K P σ0 σ) : ko Prod.snd P σ0 (f_X10_tested_54 k12 a0 s0 σ) := by
  unfold f_X10_tested_54
  repeat' with_reducible first
    | assumption
    | refine ko_someV ?_
    | refine ko_someR ?_
    | refine ko_ite ?_ ?_
    | refine ko_gd (fun _ => ?_)
    | refine ko_gz ?_
    | refine ko_gb ?_
    | refine ko_gq ?_
    | refine ko_gl ?_
    | refine ko_lts ?_ (fun _ _ => ?_)
    | refine ko_ltx (fun _ => ?_)
    | refine ko_bd ?_ (fun _ _ _ => ?_)
    | refine ko_bv ?_ (fun _ _ => ?_)
    | refine ko_sui (by assumption) ?_
    | refine ko_suj (by assumption) ?_
    | refine ko_suc (by assumption) ?_
    | refine ko_suw (by assumption) ?_
    | refine ko_none
    | (apply hk0; assumption)
    | (refine fr_X10_isWord ?_ (by assumption))
    | (refine fr_X10_tested_76 ?_ (by first | exact hk0) (by assumption))
  all_goals (intro a k q; have q2 := hP a k q; clear hP q; obtain ⟨q0_, q1_, q2_, q3_, q4_, q5_⟩ := q2)
  all_goals ((repeat' apply And.intro) <;> first | exact trivial | assumption | exact fun e => absurd e.1 (by assumption))

theorem fr_X10_tested_12 {P : Nat → Nat → Prop} {σ0 σ : mm_S} {a0 : Nat} {i1 : Int32} (hP : ∀ a k, P a k → ¬ (a = a0 ∧ k = 16) ∧ ¬ (a = a0 ∧ k = 13) ∧ a ≠ 216 ∧ a ≠ 217 ∧ ¬ (a = a0 ∧ k = 8) ∧ ¬ (a = a0 ∧ k = 9) ∧ ¬ (a = a0 ∧ k = 12) ∧ ¬ (a = a0 ∧ k = 10) ∧ a ≠ 221) (h : ko_K P σ0 σ) : ko Prod.snd P σ0 (f_X10_tested_12 a0 i1 σ) := by
  unfold f_X10_tested_12
  refine ko_lp (fun rec hrec v τ hτ => ?_) lpN _ _ h
  repeat' with_reducible first
    | assumption
    | refine ko_someV ?_
    | refine ko_someR ?_
    | refine ko_ite ?_ ?_
    | refine ko_gd (fun _ => ?_)
    | refine ko_gz ?_
    | refine ko_gb ?_
    | refine ko_gq ?_
    | refine ko_gl ?_
    | refine ko_lts ?_ (fun _ _ => ?_)
    | refine ko_ltx (fun _ => ?_)
    | refine ko_bd ?_ (fun _ _ _ => ?_)
    | refine ko_bv ?_ (fun _ _ => ?_)
    | refine ko_sui (by assumption) ?_
    | refine ko_suj (by assumption) ?_
    | refine ko_suc (by assumption) ?_
    | refine ko_suw (by assumption) ?_
    | refine ko_none
    | (apply hrec; assumption)
    | (refine fr_X10_isInside ?_ (by assumption))
    | (refine fr_X10_layDown ?_ (by assumption))
    | (refine fr_X10_see ?_ (by assumption))
    | (refine fr_X10_fails ?_ (by assumption))
    | (refine fr_X10_fact ?_ (by assumption))
    | (refine fr_X10_closes ?_ (by assumption))
    | (refine fr_X10_isWord ?_ (by assumption))
    | (refine fr_X10_tested_54 ?_ (by first | exact hrec) (by assumption))
  all_goals (intro a k q; have q2 := hP a k q; clear hP q; obtain ⟨q0_, q1_, q2_, q3_, q4_, q5_, q6_, q7_, q8_⟩ := q2)
  all_goals ((repeat' apply And.intro) <;> first | exact trivial | assumption | exact fun e => absurd e.1 (by assumption))

theorem fr_X10_tested {P : Nat → Nat → Prop} {σ0 σ : mm_S} {a0 : Nat} (hP : ∀ a k, P a k → ¬ (a = a0 ∧ k = 16) ∧ ¬ (a = a0 ∧ k = 13) ∧ a ≠ 216 ∧ a ≠ 217 ∧ ¬ (a = a0 ∧ k = 8) ∧ ¬ (a = a0 ∧ k = 9) ∧ ¬ (a = a0 ∧ k = 12) ∧ ¬ (a = a0 ∧ k = 10) ∧ a ≠ 221) (h : ko_K P σ0 σ) : ko Prod.snd P σ0 (f_X10_tested a0 σ) := by
  unfold f_X10_tested
  repeat' with_reducible first
    | assumption
    | refine ko_someV ?_
    | refine ko_someR ?_
    | refine ko_ite ?_ ?_
    | refine ko_gd (fun _ => ?_)
    | refine ko_gz ?_
    | refine ko_gb ?_
    | refine ko_gq ?_
    | refine ko_gl ?_
    | refine ko_lts ?_ (fun _ _ => ?_)
    | refine ko_ltx (fun _ => ?_)
    | refine ko_bd ?_ (fun _ _ _ => ?_)
    | refine ko_bv ?_ (fun _ _ => ?_)
    | refine ko_sui (by assumption) ?_
    | refine ko_suj (by assumption) ?_
    | refine ko_suc (by assumption) ?_
    | refine ko_suw (by assumption) ?_
    | refine ko_none
    | (refine fr_X10_tested_12 ?_ (by assumption))
  all_goals (intro a k q; have q2 := hP a k q; clear hP q; obtain ⟨q0_, q1_, q2_, q3_, q4_, q5_, q6_, q7_, q8_⟩ := q2)
  all_goals ((repeat' apply And.intro) <;> first | exact trivial | assumption | exact fun e => absurd e.1 (by assumption))

theorem fr_X10_isSeekHere_110 {P : Nat → Nat → Prop} {σ0 σ : mm_S} {a0 : Nat} {i1 : Int32} (hP : ∀ a k, P a k → a ≠ 218 ∧ a ≠ 219) (h : ko_K P σ0 σ) : ko Prod.snd P σ0 (f_X10_isSeekHere_110 a0 i1 σ) := by
  unfold f_X10_isSeekHere_110
  repeat' with_reducible first
    | assumption
    | refine ko_someV ?_
    | refine ko_someR ?_
    | refine ko_ite ?_ ?_
    | refine ko_gd (fun _ => ?_)
    | refine ko_gz ?_
    | refine ko_gb ?_
    | refine ko_gq ?_
    | refine ko_gl ?_
    | refine ko_lts ?_ (fun _ _ => ?_)
    | refine ko_ltx (fun _ => ?_)
    | refine ko_bd ?_ (fun _ _ _ => ?_)
    | refine ko_bv ?_ (fun _ _ => ?_)
    | refine ko_sui (by assumption) ?_
    | refine ko_suj (by assumption) ?_
    | refine ko_suc (by assumption) ?_
    | refine ko_suw (by assumption) ?_
    | refine ko_none
  all_goals (intro a k q; have q2 := hP a k q; clear hP q; obtain ⟨q0_, q1_⟩ := q2)
  all_goals ((repeat' apply And.intro) <;> first | exact trivial | assumption | exact fun e => absurd e.1 (by assumption))

theorem fr_X10_isSeekHere {P : Nat → Nat → Prop} {σ0 σ : mm_S} {a0 : Nat} (hP : ∀ a k, P a k → a ≠ 218 ∧ ¬ (a = a0 ∧ k = 8) ∧ ¬ (a = a0 ∧ k = 12) ∧ ¬ (a = a0 ∧ k = 9) ∧ a ≠ 216 ∧ a ≠ 217 ∧ ¬ (a = a0 ∧ k = 10) ∧ a ≠ 219 ∧ ¬ (a = a0 ∧ k = 16) ∧ ¬ (a = a0 ∧ k = 13) ∧ a ≠ 221) (h : ko_K P σ0 σ) : ko Prod.snd P σ0 (f_X10_isSeekHere a0 σ) := by
  unfold f_X10_isSeekHere
  repeat' with_reducible first
    | assumption
    | refine ko_someV ?_
    | refine ko_someR ?_
    | refine ko_ite ?_ ?_
    | refine ko_gd (fun _ => ?_)
    | refine ko_gz ?_
    | refine ko_gb ?_
    | refine ko_gq ?_
    | refine ko_gl ?_
    | refine ko_lts ?_ (fun _ _ => ?_)
    | refine ko_ltx (fun _ => ?_)
    | refine ko_bd ?_ (fun _ _ _ => ?_)
    | refine ko_bv ?_ (fun _ _ => ?_)
    | refine ko_sui (by assumption) ?_
    | refine ko_suj (by assumption) ?_
    | refine ko_suc (by assumption) ?_
    | refine ko_suw (by assumption) ?_
    | refine ko_none
    | (refine fr_X10_passWord ?_ (by assumption))
    | (refine fr_X10_sum ?_ (by assumption))
    | (refine fr_X10_takesWord ?_ (by assumption))
    | (refine fr_X10_isSeekHere_110 ?_ (by assumption))
    | (refine fr_X10_tested ?_ (by assumption))
  all_goals (intro a k q; have q2 := hP a k q; clear hP q; obtain ⟨q0_, q1_, q2_, q3_, q4_, q5_, q6_, q7_, q8_, q9_, q10_⟩ := q2)
  all_goals ((repeat' apply And.intro) <;> first | exact trivial | assumption | exact fun e => absurd e.1 (by assumption))

theorem fr_X10_cellHere {P : Nat → Nat → Prop} {σ0 σ : mm_S} {a0 : Nat} {i1 : Int32} {i2 : Int32} {i3 : Int32} (hP : ∀ a k, P a k → a ≠ 220 ∧ ¬ (a = a0 ∧ k = 8) ∧ ¬ (a = a0 ∧ k = 9) ∧ ¬ (a = a0 ∧ k = 10)) (h : ko_K P σ0 σ) : ko Prod.snd P σ0 (f_X10_cellHere a0 i1 i2 i3 σ) := by
  unfold f_X10_cellHere
  repeat' with_reducible first
    | assumption
    | refine ko_someV ?_
    | refine ko_someR ?_
    | refine ko_ite ?_ ?_
    | refine ko_gd (fun _ => ?_)
    | refine ko_gz ?_
    | refine ko_gb ?_
    | refine ko_gq ?_
    | refine ko_gl ?_
    | refine ko_lts ?_ (fun _ _ => ?_)
    | refine ko_ltx (fun _ => ?_)
    | refine ko_bd ?_ (fun _ _ _ => ?_)
    | refine ko_bv ?_ (fun _ _ => ?_)
    | refine ko_sui (by assumption) ?_
    | refine ko_suj (by assumption) ?_
    | refine ko_suc (by assumption) ?_
    | refine ko_suw (by assumption) ?_
    | refine ko_none
    | (refine fr_X10_numberHere ?_ (by assumption))
  all_goals (intro a k q; have q2 := hP a k q; clear hP q; obtain ⟨q0_, q1_, q2_, q3_⟩ := q2)
  all_goals ((repeat' apply And.intro) <;> first | exact trivial | assumption | exact fun e => absurd e.1 (by assumption))

theorem fr_X10_isHouseHere {P : Nat → Nat → Prop} {σ0 σ : mm_S} {a0 : Nat} {i1 : Int32} (hP : ∀ a k, P a k → a ≠ 220 ∧ ¬ (a = a0 ∧ k = 8) ∧ ¬ (a = a0 ∧ k = 9) ∧ ¬ (a = a0 ∧ k = 10)) (h : ko_K P σ0 σ) : ko Prod.snd P σ0 (f_X10_isHouseHere a0 i1 σ) := by
  unfold f_X10_isHouseHere
  repeat' with_reducible first
    | assumption
    | refine ko_someV ?_
    | refine ko_someR ?_
    | refine ko_ite ?_ ?_
    | refine ko_gd (fun _ => ?_)
    | refine ko_gz ?_
    | refine ko_gb ?_
    | refine ko_gq ?_
    | refine ko_gl ?_
    | refine ko_lts ?_ (fun _ _ => ?_)
    | refine ko_ltx (fun _ => ?_)
    | refine ko_bd ?_ (fun _ _ _ => ?_)
    | refine ko_bv ?_ (fun _ _ => ?_)
    | refine ko_sui (by assumption) ?_
    | refine ko_suj (by assumption) ?_
    | refine ko_suc (by assumption) ?_
    | refine ko_suw (by assumption) ?_
    | refine ko_none
    | (refine fr_X10_passWord ?_ (by assumption))
    | (refine fr_X10_cellHere ?_ (by assumption))
    | (refine fr_X10_fails ?_ (by assumption))
  all_goals (intro a k q; have q2 := hP a k q; clear hP q; obtain ⟨q0_, q1_, q2_, q3_⟩ := q2)
  all_goals ((repeat' apply And.intro) <;> first | exact trivial | assumption | exact fun e => absurd e.1 (by assumption))

theorem fr_X10_isLodgerHere {P : Nat → Nat → Prop} {σ0 σ : mm_S} {a0 : Nat} {i1 : Int32} (hP : ∀ a k, P a k → a ≠ 220 ∧ ¬ (a = a0 ∧ k = 9) ∧ ¬ (a = a0 ∧ k = 8) ∧ ¬ (a = a0 ∧ k = 10)) (h : ko_K P σ0 σ) : ko Prod.snd P σ0 (f_X10_isLodgerHere a0 i1 σ) := by
  unfold f_X10_isLodgerHere
  repeat' with_reducible first
    | assumption
    | refine ko_someV ?_
    | refine ko_someR ?_
    | refine ko_ite ?_ ?_
    | refine ko_gd (fun _ => ?_)
    | refine ko_gz ?_
    | refine ko_gb ?_
    | refine ko_gq ?_
    | refine ko_gl ?_
    | refine ko_lts ?_ (fun _ _ => ?_)
    | refine ko_ltx (fun _ => ?_)
    | refine ko_bd ?_ (fun _ _ _ => ?_)
    | refine ko_bv ?_ (fun _ _ => ?_)
    | refine ko_sui (by assumption) ?_
    | refine ko_suj (by assumption) ?_
    | refine ko_suc (by assumption) ?_
    | refine ko_suw (by assumption) ?_
    | refine ko_none
    | (refine fr_X10_fails ?_ (by assumption))
    | (refine fr_X10_passWord ?_ (by assumption))
    | (refine fr_X10_cellHere ?_ (by assumption))
  all_goals (intro a k q; have q2 := hP a k q; clear hP q; obtain ⟨q0_, q1_, q2_, q3_⟩ := q2)
  all_goals ((repeat' apply And.intro) <;> first | exact trivial | assumption | exact fun e => absurd e.1 (by assumption))

theorem fr_X10_isDearHere {P : Nat → Nat → Prop} {σ0 σ : mm_S} {a0 : Nat} (hP : ∀ a k, P a k → ¬ (a = a0 ∧ k = 8) ∧ ¬ (a = a0 ∧ k = 9) ∧ ¬ (a = a0 ∧ k = 10) ∧ a ≠ 220) (h : ko_K P σ0 σ) : ko Prod.snd P σ0 (f_X10_isDearHere a0 σ) := by
  unfold f_X10_isDearHere
  repeat' with_reducible first
    | assumption
    | refine ko_someV ?_
    | refine ko_someR ?_
    | refine ko_ite ?_ ?_
    | refine ko_gd (fun _ => ?_)
    | refine ko_gz ?_
    | refine ko_gb ?_
    | refine ko_gq ?_
    | refine ko_gl ?_
    | refine ko_lts ?_ (fun _ _ => ?_)
    | refine ko_ltx (fun _ => ?_)
    | refine ko_bd ?_ (fun _ _ _ => ?_)
    | refine ko_bv ?_ (fun _ _ => ?_)
    | refine ko_sui (by assumption) ?_
    | refine ko_suj (by assumption) ?_
    | refine ko_suc (by assumption) ?_
    | refine ko_suw (by assumption) ?_
    | refine ko_none
    | (refine fr_X10_passWord ?_ (by assumption))
    | (refine fr_X10_numberHere ?_ (by assumption))
    | (refine fr_X10_see ?_ (by assumption))
    | (refine fr_X10_fails ?_ (by assumption))
    | (refine fr_X10_cellHere ?_ (by assumption))
  all_goals (intro a k q; have q2 := hP a k q; clear hP q; obtain ⟨q0_, q1_, q2_, q3_⟩ := q2)
  all_goals ((repeat' apply And.intro) <;> first | exact trivial | assumption | exact fun e => absurd e.1 (by assumption))

theorem fr_X10_isCountHere {P : Nat → Nat → Prop} {σ0 σ : mm_S} {a0 : Nat} (hP : ∀ a k, P a k → a ≠ 220 ∧ ¬ (a = a0 ∧ k = 8) ∧ ¬ (a = a0 ∧ k = 9) ∧ ¬ (a = a0 ∧ k = 10)) (h : ko_K P σ0 σ) : ko Prod.snd P σ0 (f_X10_isCountHere a0 σ) := by
  unfold f_X10_isCountHere
  repeat' with_reducible first
    | assumption
    | refine ko_someV ?_
    | refine ko_someR ?_
    | refine ko_ite ?_ ?_
    | refine ko_gd (fun _ => ?_)
    | refine ko_gz ?_
    | refine ko_gb ?_
    | refine ko_gq ?_
    | refine ko_gl ?_
    | refine ko_lts ?_ (fun _ _ => ?_)
    | refine ko_ltx (fun _ => ?_)
    | refine ko_bd ?_ (fun _ _ _ => ?_)
    | refine ko_bv ?_ (fun _ _ => ?_)
    | refine ko_sui (by assumption) ?_
    | refine ko_suj (by assumption) ?_
    | refine ko_suc (by assumption) ?_
    | refine ko_suw (by assumption) ?_
    | refine ko_none
    | (refine fr_X10_passWord ?_ (by assumption))
    | (refine fr_X10_numberHere ?_ (by assumption))
  all_goals (intro a k q; have q2 := hP a k q; clear hP q; obtain ⟨q0_, q1_, q2_, q3_⟩ := q2)
  all_goals ((repeat' apply And.intro) <;> first | exact trivial | assumption | exact fun e => absurd e.1 (by assumption))

theorem fr_X10_houseLineHere {P : Nat → Nat → Prop} {σ0 σ : mm_S} {a0 : Nat} {i1 : Int32} (hP : ∀ a k, P a k → ¬ (a = a0 ∧ k = 8) ∧ ¬ (a = a0 ∧ k = 9) ∧ a ≠ 220 ∧ ¬ (a = a0 ∧ k = 10)) (h : ko_K P σ0 σ) : ko Prod.snd P σ0 (f_X10_houseLineHere a0 i1 σ) := by
  unfold f_X10_houseLineHere
  repeat' with_reducible first
    | assumption
    | refine ko_someV ?_
    | refine ko_someR ?_
    | refine ko_ite ?_ ?_
    | refine ko_gd (fun _ => ?_)
    | refine ko_gz ?_
    | refine ko_gb ?_
    | refine ko_gq ?_
    | refine ko_gl ?_
    | refine ko_lts ?_ (fun _ _ => ?_)
    | refine ko_ltx (fun _ => ?_)
    | refine ko_bd ?_ (fun _ _ _ => ?_)
    | refine ko_bv ?_ (fun _ _ => ?_)
    | refine ko_sui (by assumption) ?_
    | refine ko_suj (by assumption) ?_
    | refine ko_suc (by assumption) ?_
    | refine ko_suw (by assumption) ?_
    | refine ko_none
    | (refine fr_X10_isWord ?_ (by assumption))
    | (refine fr_X10_fails ?_ (by assumption))
    | (refine fr_X10_isCountHere ?_ (by assumption))
    | (refine fr_X10_isDearHere ?_ (by assumption))
    | (refine fr_X10_isLodgerHere ?_ (by assumption))
    | (refine fr_X10_isHouseHere ?_ (by assumption))
  all_goals (intro a k q; have q2 := hP a k q; clear hP q; obtain ⟨q0_, q1_, q2_, q3_⟩ := q2)
  all_goals ((repeat' apply And.intro) <;> first | exact trivial | assumption | exact fun e => absurd e.1 (by assumption))

theorem fr_X10_isHouseWord {P : Nat → Nat → Prop} {σ0 σ : mm_S} {a0 : Nat} (hP : ∀ a k, P a k → ¬ (a = a0 ∧ k = 8)) (h : ko_K P σ0 σ) : ko Prod.snd P σ0 (f_X10_isHouseWord a0 σ) := by
  unfold f_X10_isHouseWord
  repeat' with_reducible first
    | assumption
    | refine ko_someV ?_
    | refine ko_someR ?_
    | refine ko_ite ?_ ?_
    | refine ko_gd (fun _ => ?_)
    | refine ko_gz ?_
    | refine ko_gb ?_
    | refine ko_gq ?_
    | refine ko_gl ?_
    | refine ko_lts ?_ (fun _ _ => ?_)
    | refine ko_ltx (fun _ => ?_)
    | refine ko_bd ?_ (fun _ _ _ => ?_)
    | refine ko_bv ?_ (fun _ _ => ?_)
    | refine ko_sui (by assumption) ?_
    | refine ko_suj (by assumption) ?_
    | refine ko_suc (by assumption) ?_
    | refine ko_suw (by assumption) ?_
    | refine ko_none
    | (refine fr_X10_isWord ?_ (by assumption))
  all_goals (intro a k q; have q2 := hP a k q; clear hP q; have q0_ := q2; clear q2)
  all_goals ((repeat' apply And.intro) <;> first | exact trivial | assumption | exact fun e => absurd e.1 (by assumption))

theorem fr_X10_clauseHere_71 {P : Nat → Nat → Prop} {σ0 σ : mm_S} {a0 : Nat} {i1 : Int32} {i2 : Int32} {s0 : Int32} {s1 : Int32} (hP : ∀ a k, P a k → ¬ (a = a0 ∧ k = 14) ∧ ¬ (a = a0 ∧ k = 9) ∧ a ≠ 218 ∧ ¬ (a = a0 ∧ k = 8) ∧ ¬ (a = a0 ∧ k = 12) ∧ a ≠ 216 ∧ a ≠ 217 ∧ ¬ (a = a0 ∧ k = 10) ∧ a ≠ 219 ∧ ¬ (a = a0 ∧ k = 16) ∧ ¬ (a = a0 ∧ k = 13) ∧ a ≠ 221 ∧ a ≠ 220) (h : ko_K P σ0 σ) : ko Prod.snd P σ0 (f_X10_clauseHere_71 a0 i1 i2 s0 s1 σ) := by
  unfold f_X10_clauseHere_71
  repeat' with_reducible first
    | assumption
    | refine ko_someV ?_
    | refine ko_someR ?_
    | refine ko_ite ?_ ?_
    | refine ko_gd (fun _ => ?_)
    | refine ko_gz ?_
    | refine ko_gb ?_
    | refine ko_gq ?_
    | refine ko_gl ?_
    | refine ko_lts ?_ (fun _ _ => ?_)
    | refine ko_ltx (fun _ => ?_)
    | refine ko_bd ?_ (fun _ _ _ => ?_)
    | refine ko_bv ?_ (fun _ _ => ?_)
    | refine ko_sui (by assumption) ?_
    | refine ko_suj (by assumption) ?_
    | refine ko_suc (by assumption) ?_
    | refine ko_suw (by assumption) ?_
    | refine ko_none
    | (refine fr_X10_fails ?_ (by assumption))
    | (refine fr_X10_isSeekHere ?_ (by assumption))
    | (refine fr_X10_houseLineHere ?_ (by assumption))
  all_goals (intro a k q; have q2 := hP a k q; clear hP q; obtain ⟨q0_, q1_, q2_, q3_, q4_, q5_, q6_, q7_, q8_, q9_, q10_, q11_, q12_⟩ := q2)
  all_goals ((repeat' apply And.intro) <;> first | exact trivial | assumption | exact fun e => absurd e.1 (by assumption))

theorem fr_X10_clauseHere_56 {P : Nat → Nat → Prop} {σ0 σ : mm_S} {a0 : Nat} {i1 : Int32} {i2 : Int32} (hP : ∀ a k, P a k → ¬ (a = a0 ∧ k = 14) ∧ ¬ (a = a0 ∧ k = 9) ∧ a ≠ 218 ∧ ¬ (a = a0 ∧ k = 8) ∧ ¬ (a = a0 ∧ k = 12) ∧ a ≠ 216 ∧ a ≠ 217 ∧ ¬ (a = a0 ∧ k = 10) ∧ a ≠ 219 ∧ ¬ (a = a0 ∧ k = 16) ∧ ¬ (a = a0 ∧ k = 13) ∧ a ≠ 221 ∧ a ≠ 220) (h : ko_K P σ0 σ) : ko Prod.snd P σ0 (f_X10_clauseHere_56 a0 i1 i2 σ) := by
  unfold f_X10_clauseHere_56
  repeat' with_reducible first
    | assumption
    | refine ko_someV ?_
    | refine ko_someR ?_
    | refine ko_ite ?_ ?_
    | refine ko_gd (fun _ => ?_)
    | refine ko_gz ?_
    | refine ko_gb ?_
    | refine ko_gq ?_
    | refine ko_gl ?_
    | refine ko_lts ?_ (fun _ _ => ?_)
    | refine ko_ltx (fun _ => ?_)
    | refine ko_bd ?_ (fun _ _ _ => ?_)
    | refine ko_bv ?_ (fun _ _ => ?_)
    | refine ko_sui (by assumption) ?_
    | refine ko_suj (by assumption) ?_
    | refine ko_suc (by assumption) ?_
    | refine ko_suw (by assumption) ?_
    | refine ko_none
    | (refine fr_X10_clauseHere_71 ?_ (by assumption))
  all_goals (intro a k q; have q2 := hP a k q; clear hP q; obtain ⟨q0_, q1_, q2_, q3_, q4_, q5_, q6_, q7_, q8_, q9_, q10_, q11_, q12_⟩ := q2)
  all_goals ((repeat' apply And.intro) <;> first | exact trivial | assumption | exact fun e => absurd e.1 (by assumption))

theorem fr_X10_clauseHere_24 {P : Nat → Nat → Prop} {σ0 σ : mm_S} {a0 : Nat} {i1 : Int32} {s0 : Int32} (hP : ∀ a k, P a k → ¬ (a = a0 ∧ k = 8) ∧ ¬ (a = a0 ∧ k = 9) ∧ ¬ (a = a0 ∧ k = 14) ∧ a ≠ 218 ∧ ¬ (a = a0 ∧ k = 12) ∧ a ≠ 216 ∧ a ≠ 217 ∧ ¬ (a = a0 ∧ k = 10) ∧ a ≠ 219 ∧ ¬ (a = a0 ∧ k = 16) ∧ ¬ (a = a0 ∧ k = 13) ∧ a ≠ 221 ∧ a ≠ 220) (h : ko_K P σ0 σ) : ko Prod.snd P σ0 (f_X10_clauseHere_24 a0 i1 s0 σ) := by
  unfold f_X10_clauseHere_24
  repeat' with_reducible first
    | assumption
    | refine ko_someV ?_
    | refine ko_someR ?_
    | refine ko_ite ?_ ?_
    | refine ko_gd (fun _ => ?_)
    | refine ko_gz ?_
    | refine ko_gb ?_
    | refine ko_gq ?_
    | refine ko_gl ?_
    | refine ko_lts ?_ (fun _ _ => ?_)
    | refine ko_ltx (fun _ => ?_)
    | refine ko_bd ?_ (fun _ _ _ => ?_)
    | refine ko_bv ?_ (fun _ _ => ?_)
    | refine ko_sui (by assumption) ?_
    | refine ko_suj (by assumption) ?_
    | refine ko_suc (by assumption) ?_
    | refine ko_suw (by assumption) ?_
    | refine ko_none
    | (refine fr_X10_isWord ?_ (by assumption))
    | (refine fr_X10_fails ?_ (by assumption))
    | (refine fr_X10_clauseHere_56 ?_ (by assumption))
    | (refine fr_X10_isHouseWord ?_ (by assumption))
  all_goals (intro a k q; have q2 := hP a k q; clear hP q; obtain ⟨q0_, q1_, q2_, q3_, q4_, q5_, q6_, q7_, q8_, q9_, q10_, q11_, q12_⟩ := q2)
  all_goals ((repeat' apply And.intro) <;> first | exact trivial | assumption | exact fun e => absurd e.1 (by assumption))

theorem fr_X10_clauseHere {P : Nat → Nat → Prop} {σ0 σ : mm_S} {a0 : Nat} (hP : ∀ a k, P a k → ¬ (a = a0 ∧ k = 8) ∧ ¬ (a = a0 ∧ k = 9) ∧ ¬ (a = a0 ∧ k = 14) ∧ a ≠ 218 ∧ ¬ (a = a0 ∧ k = 12) ∧ a ≠ 216 ∧ a ≠ 217 ∧ ¬ (a = a0 ∧ k = 10) ∧ a ≠ 219 ∧ ¬ (a = a0 ∧ k = 16) ∧ ¬ (a = a0 ∧ k = 13) ∧ a ≠ 221 ∧ a ≠ 220) (h : ko_K P σ0 σ) : ko Prod.snd P σ0 (f_X10_clauseHere a0 σ) := by
  unfold f_X10_clauseHere
  repeat' with_reducible first
    | assumption
    | refine ko_someV ?_
    | refine ko_someR ?_
    | refine ko_ite ?_ ?_
    | refine ko_gd (fun _ => ?_)
    | refine ko_gz ?_
    | refine ko_gb ?_
    | refine ko_gq ?_
    | refine ko_gl ?_
    | refine ko_lts ?_ (fun _ _ => ?_)
    | refine ko_ltx (fun _ => ?_)
    | refine ko_bd ?_ (fun _ _ _ => ?_)
    | refine ko_bv ?_ (fun _ _ => ?_)
    | refine ko_sui (by assumption) ?_
    | refine ko_suj (by assumption) ?_
    | refine ko_suc (by assumption) ?_
    | refine ko_suw (by assumption) ?_
    | refine ko_none
    | (refine fr_X10_see ?_ (by assumption))
    | (refine fr_X10_clauseHere_24 ?_ (by assumption))
  all_goals (intro a k q; have q2 := hP a k q; clear hP q; obtain ⟨q0_, q1_, q2_, q3_, q4_, q5_, q6_, q7_, q8_, q9_, q10_, q11_, q12_⟩ := q2)
  all_goals ((repeat' apply And.intro) <;> first | exact trivial | assumption | exact fun e => absurd e.1 (by assumption))

theorem fr_X10_readsAll_88 {P : Nat → Nat → Prop} {σ0 σ : mm_S} {a0 : Nat} (hP : ∀ a k, P a k → ¬ (a = a0 ∧ k = 1)) (h : ko_K P σ0 σ) : ko Prod.snd P σ0 (f_X10_readsAll_88 a0 σ) := by
  unfold f_X10_readsAll_88
  repeat' with_reducible first
    | assumption
    | refine ko_someV ?_
    | refine ko_someR ?_
    | refine ko_ite ?_ ?_
    | refine ko_gd (fun _ => ?_)
    | refine ko_gz ?_
    | refine ko_gb ?_
    | refine ko_gq ?_
    | refine ko_gl ?_
    | refine ko_lts ?_ (fun _ _ => ?_)
    | refine ko_ltx (fun _ => ?_)
    | refine ko_bd ?_ (fun _ _ _ => ?_)
    | refine ko_bv ?_ (fun _ _ => ?_)
    | refine ko_sui (by assumption) ?_
    | refine ko_suj (by assumption) ?_
    | refine ko_suc (by assumption) ?_
    | refine ko_suw (by assumption) ?_
    | refine ko_none
  all_goals (intro a k q; have q2 := hP a k q; clear hP q; have q0_ := q2; clear q2)
  all_goals ((repeat' apply And.intro) <;> first | exact trivial | assumption | exact fun e => absurd e.1 (by assumption))

theorem fr_X10_readsAll_66 {P : Nat → Nat → Prop} {σ0 σ : mm_S} {a0 : Nat} {i1 : Int32} (hP : ∀ a k, P a k → ¬ (a = a0 ∧ k = 1) ∧ ¬ (a = a0 ∧ k = 8) ∧ ¬ (a = a0 ∧ k = 9)) (h : ko_K P σ0 σ) : ko Prod.snd P σ0 (f_X10_readsAll_66 a0 i1 σ) := by
  unfold f_X10_readsAll_66
  repeat' with_reducible first
    | assumption
    | refine ko_someV ?_
    | refine ko_someR ?_
    | refine ko_ite ?_ ?_
    | refine ko_gd (fun _ => ?_)
    | refine ko_gz ?_
    | refine ko_gb ?_
    | refine ko_gq ?_
    | refine ko_gl ?_
    | refine ko_lts ?_ (fun _ _ => ?_)
    | refine ko_ltx (fun _ => ?_)
    | refine ko_bd ?_ (fun _ _ _ => ?_)
    | refine ko_bv ?_ (fun _ _ => ?_)
    | refine ko_sui (by assumption) ?_
    | refine ko_suj (by assumption) ?_
    | refine ko_suc (by assumption) ?_
    | refine ko_suw (by assumption) ?_
    | refine ko_none
    | (refine fr_X10_readsAll_88 ?_ (by assumption))
    | (refine fr_X10_see ?_ (by assumption))
    | (refine fr_X10_fails ?_ (by assumption))
  all_goals (intro a k q; have q2 := hP a k q; clear hP q; obtain ⟨q0_, q1_, q2_⟩ := q2)
  all_goals ((repeat' apply And.intro) <;> first | exact trivial | assumption | exact fun e => absurd e.1 (by assumption))

theorem fr_X10_readsAll_35 {P : Nat → Nat → Prop} {σ0 σ : mm_S} {a0 : Nat} {i1 : Int32} (hP : ∀ a k, P a k → ¬ (a = a0 ∧ k = 8) ∧ ¬ (a = a0 ∧ k = 1) ∧ ¬ (a = a0 ∧ k = 9) ∧ ¬ (a = a0 ∧ k = 14) ∧ a ≠ 218 ∧ ¬ (a = a0 ∧ k = 12) ∧ a ≠ 216 ∧ a ≠ 217 ∧ ¬ (a = a0 ∧ k = 10) ∧ a ≠ 219 ∧ ¬ (a = a0 ∧ k = 16) ∧ ¬ (a = a0 ∧ k = 13) ∧ a ≠ 221 ∧ a ≠ 220) (h : ko_K P σ0 σ) : ko Prod.snd P σ0 (f_X10_readsAll_35 a0 i1 σ) := by
  unfold f_X10_readsAll_35
  refine ko_lp (fun rec hrec v τ hτ => ?_) lpN _ _ h
  repeat' with_reducible first
    | assumption
    | refine ko_someV ?_
    | refine ko_someR ?_
    | refine ko_ite ?_ ?_
    | refine ko_gd (fun _ => ?_)
    | refine ko_gz ?_
    | refine ko_gb ?_
    | refine ko_gq ?_
    | refine ko_gl ?_
    | refine ko_lts ?_ (fun _ _ => ?_)
    | refine ko_ltx (fun _ => ?_)
    | refine ko_bd ?_ (fun _ _ _ => ?_)
    | refine ko_bv ?_ (fun _ _ => ?_)
    | refine ko_sui (by assumption) ?_
    | refine ko_suj (by assumption) ?_
    | refine ko_suc (by assumption) ?_
    | refine ko_suw (by assumption) ?_
    | refine ko_none
    | (apply hrec; assumption)
    | (refine fr_X10_readsAll_66 ?_ (by assumption))
    | (refine fr_X10_see ?_ (by assumption))
    | (refine fr_X10_clauseHere ?_ (by assumption))
  all_goals (intro a k q; have q2 := hP a k q; clear hP q; obtain ⟨q0_, q1_, q2_, q3_, q4_, q5_, q6_, q7_, q8_, q9_, q10_, q11_, q12_, q13_⟩ := q2)
  all_goals ((repeat' apply And.intro) <;> first | exact trivial | assumption | exact fun e => absurd e.1 (by assumption))

theorem fr_X10_readsAll {P : Nat → Nat → Prop} {σ0 σ : mm_S} {a0 : Nat} (hP : ∀ a k, P a k → a ≠ 217 ∧ ¬ (a = a0 ∧ k = 14) ∧ ¬ (a = a0 ∧ k = 8) ∧ ¬ (a = a0 ∧ k = 9) ∧ ¬ (a = a0 ∧ k = 12) ∧ a ≠ 218 ∧ a ≠ 216 ∧ ¬ (a = a0 ∧ k = 10) ∧ a ≠ 219 ∧ ¬ (a = a0 ∧ k = 16) ∧ ¬ (a = a0 ∧ k = 13) ∧ a ≠ 221 ∧ a ≠ 220 ∧ ¬ (a = a0 ∧ k = 1)) (h : ko_K P σ0 σ) : ko Prod.snd P σ0 (f_X10_readsAll a0 σ) := by
  unfold f_X10_readsAll
  repeat' with_reducible first
    | assumption
    | refine ko_someV ?_
    | refine ko_someR ?_
    | refine ko_ite ?_ ?_
    | refine ko_gd (fun _ => ?_)
    | refine ko_gz ?_
    | refine ko_gb ?_
    | refine ko_gq ?_
    | refine ko_gl ?_
    | refine ko_lts ?_ (fun _ _ => ?_)
    | refine ko_ltx (fun _ => ?_)
    | refine ko_bd ?_ (fun _ _ _ => ?_)
    | refine ko_bv ?_ (fun _ _ => ?_)
    | refine ko_sui (by assumption) ?_
    | refine ko_suj (by assumption) ?_
    | refine ko_suc (by assumption) ?_
    | refine ko_suw (by assumption) ?_
    | refine ko_none
    | (refine fr_X10_clauseHere ?_ (by assumption))
    | (refine fr_X10_readsAll_35 ?_ (by assumption))
  all_goals (intro a k q; have q2 := hP a k q; clear hP q; obtain ⟨q0_, q1_, q2_, q3_, q4_, q5_, q6_, q7_, q8_, q9_, q10_, q11_, q12_, q13_⟩ := q2)
  all_goals ((repeat' apply And.intro) <;> first | exact trivial | assumption | exact fun e => absurd e.1 (by assumption))

theorem fr_X10_rule {P : Nat → Nat → Prop} {σ0 σ : mm_S} {a0 : Nat} (hP : ∀ a k, P a k → ¬ (a = a0 ∧ k = 11) ∧ a ≠ 219 ∧ ¬ (a = a0 ∧ k = 2) ∧ a ≠ 217 ∧ ¬ (a = a0 ∧ k = 14) ∧ ¬ (a = a0 ∧ k = 8) ∧ ¬ (a = a0 ∧ k = 9) ∧ ¬ (a = a0 ∧ k = 12) ∧ a ≠ 218 ∧ a ≠ 216 ∧ ¬ (a = a0 ∧ k = 10) ∧ ¬ (a = a0 ∧ k = 16) ∧ ¬ (a = a0 ∧ k = 13) ∧ a ≠ 221 ∧ a ≠ 220 ∧ ¬ (a = a0 ∧ k = 1)) (h : ko_K P σ0 σ) : ko Prod.snd P σ0 (f_X10_rule a0 σ) := by
  unfold f_X10_rule
  repeat' with_reducible first
    | assumption
    | refine ko_someV ?_
    | refine ko_someR ?_
    | refine ko_ite ?_ ?_
    | refine ko_gd (fun _ => ?_)
    | refine ko_gz ?_
    | refine ko_gb ?_
    | refine ko_gq ?_
    | refine ko_gl ?_
    | refine ko_lts ?_ (fun _ _ => ?_)
    | refine ko_ltx (fun _ => ?_)
    | refine ko_bd ?_ (fun _ _ _ => ?_)
    | refine ko_bv ?_ (fun _ _ => ?_)
    | refine ko_sui (by assumption) ?_
    | refine ko_suj (by assumption) ?_
    | refine ko_suc (by assumption) ?_
    | refine ko_suw (by assumption) ?_
    | refine ko_none
    | (refine fr_X10_readsAll ?_ (by assumption))
  all_goals (intro a k q; have q2 := hP a k q; clear hP q; obtain ⟨q0_, q1_, q2_, q3_, q4_, q5_, q6_, q7_, q8_, q9_, q10_, q11_, q12_, q13_, q14_, q15_⟩ := q2)
  all_goals ((repeat' apply And.intro) <;> first | exact trivial | assumption | exact fun e => absurd e.1 (by assumption))

theorem fr_X10_begins_10 {P : Nat → Nat → Prop} {σ0 σ : mm_S} {a0 : Nat} {i1 : Int32} (hP : ∀ a k, P a k → a ≠ 224) (h : ko_K P σ0 σ) : ko id P σ0 (f_X10_begins_10 a0 i1 σ) := by
  unfold f_X10_begins_10
  refine ko_lp (fun rec hrec v τ hτ => ?_) lpN _ _ h
  repeat' with_reducible first
    | assumption
    | refine ko_someV ?_
    | refine ko_someR ?_
    | refine ko_ite ?_ ?_
    | refine ko_gd (fun _ => ?_)
    | refine ko_gz ?_
    | refine ko_gb ?_
    | refine ko_gq ?_
    | refine ko_gl ?_
    | refine ko_lts ?_ (fun _ _ => ?_)
    | refine ko_ltx (fun _ => ?_)
    | refine ko_bd ?_ (fun _ _ _ => ?_)
    | refine ko_bv ?_ (fun _ _ => ?_)
    | refine ko_sui (by assumption) ?_
    | refine ko_suj (by assumption) ?_
    | refine ko_suc (by assumption) ?_
    | refine ko_suw (by assumption) ?_
    | refine ko_none
    | (apply hrec; assumption)
  all_goals (intro a k q; have q2 := hP a k q; clear hP q; have q0_ := q2; clear q2)
  all_goals ((repeat' apply And.intro) <;> first | exact trivial | assumption | exact fun e => absurd e.1 (by assumption))

theorem fr_X10_begins {P : Nat → Nat → Prop} {σ0 σ : mm_S} {a0 : Nat} (hP : ∀ a k, P a k → a ≠ 224) (h : ko_K P σ0 σ) : ko id P σ0 (f_X10_begins a0 σ) := by
  unfold f_X10_begins
  repeat' with_reducible first
    | assumption
    | refine ko_someV ?_
    | refine ko_someR ?_
    | refine ko_ite ?_ ?_
    | refine ko_gd (fun _ => ?_)
    | refine ko_gz ?_
    | refine ko_gb ?_
    | refine ko_gq ?_
    | refine ko_gl ?_
    | refine ko_lts ?_ (fun _ _ => ?_)
    | refine ko_ltx (fun _ => ?_)
    | refine ko_bd ?_ (fun _ _ _ => ?_)
    | refine ko_bv ?_ (fun _ _ => ?_)
    | refine ko_sui (by assumption) ?_
    | refine ko_suj (by assumption) ?_
    | refine ko_suc (by assumption) ?_
    | refine ko_suw (by assumption) ?_
    | refine ko_none
    | (refine fr_X10_begins_10 ?_ (by assumption))
  all_goals (intro a k q; have q2 := hP a k q; clear hP q; have q0_ := q2; clear q2)
  all_goals ((repeat' apply And.intro) <;> first | exact trivial | assumption | exact fun e => absurd e.1 (by assumption))

theorem fr_X10_house_44 {P : Nat → Nat → Prop} {σ0 σ : mm_S} {a0 : Nat} {i1 : Int32} (hP : ∀ a k, P a k → ¬ (a = a0 ∧ k = 31) ∧ a ≠ 224) (h : ko_K P σ0 σ) : ko Prod.snd P σ0 (f_X10_house_44 a0 i1 σ) := by
  unfold f_X10_house_44
  refine ko_lp (fun rec hrec v τ hτ => ?_) lpN _ _ h
  repeat' with_reducible first
    | assumption
    | refine ko_someV ?_
    | refine ko_someR ?_
    | refine ko_ite ?_ ?_
    | refine ko_gd (fun _ => ?_)
    | refine ko_gz ?_
    | refine ko_gb ?_
    | refine ko_gq ?_
    | refine ko_gl ?_
    | refine ko_lts ?_ (fun _ _ => ?_)
    | refine ko_ltx (fun _ => ?_)
    | refine ko_bd ?_ (fun _ _ _ => ?_)
    | refine ko_bv ?_ (fun _ _ => ?_)
    | refine ko_sui (by assumption) ?_
    | refine ko_suj (by assumption) ?_
    | refine ko_suc (by assumption) ?_
    | refine ko_suw (by assumption) ?_
    | refine ko_none
    | (apply hrec; assumption)
    | (refine fr_X10_begins ?_ (by assumption))
  all_goals (intro a k q; have q2 := hP a k q; clear hP q; obtain ⟨q0_, q1_⟩ := q2)
  all_goals ((repeat' apply And.intro) <;> first | exact trivial | assumption | exact fun e => absurd e.1 (by assumption))

theorem fr_X10_house_8 {P : Nat → Nat → Prop} {σ0 σ : mm_S} {a0 : Nat} {i1 : Int32} (hP : ∀ a k, P a k → a ≠ 220 ∧ a ≠ 217 ∧ ¬ (a = a0 ∧ k = 14) ∧ ¬ (a = a0 ∧ k = 8) ∧ ¬ (a = a0 ∧ k = 9) ∧ ¬ (a = a0 ∧ k = 12) ∧ a ≠ 218 ∧ a ≠ 216 ∧ ¬ (a = a0 ∧ k = 10) ∧ a ≠ 219 ∧ ¬ (a = a0 ∧ k = 16) ∧ ¬ (a = a0 ∧ k = 13) ∧ a ≠ 221 ∧ ¬ (a = a0 ∧ k = 1) ∧ ¬ (a = a0 ∧ k = 31) ∧ a ≠ 224) (h : ko_K P σ0 σ) : ko Prod.snd P σ0 (f_X10_house_8 a0 i1 σ) := by
  unfold f_X10_house_8
  refine ko_lp (fun rec hrec v τ hτ => ?_) lpN _ _ h
  repeat' with_reducible first
    | assumption
    | refine ko_someV ?_
    | refine ko_someR ?_
    | refine ko_ite ?_ ?_
    | refine ko_gd (fun _ => ?_)
    | refine ko_gz ?_
    | refine ko_gb ?_
    | refine ko_gq ?_
    | refine ko_gl ?_
    | refine ko_lts ?_ (fun _ _ => ?_)
    | refine ko_ltx (fun _ => ?_)
    | refine ko_bd ?_ (fun _ _ _ => ?_)
    | refine ko_bv ?_ (fun _ _ => ?_)
    | refine ko_sui (by assumption) ?_
    | refine ko_suj (by assumption) ?_
    | refine ko_suc (by assumption) ?_
    | refine ko_suw (by assumption) ?_
    | refine ko_none
    | (apply hrec; assumption)
    | (refine fr_X10_readsAll ?_ (by assumption))
    | (refine fr_X10_house_44 ?_ (by assumption))
  all_goals (intro a k q; have q2 := hP a k q; clear hP q; obtain ⟨q0_, q1_, q2_, q3_, q4_, q5_, q6_, q7_, q8_, q9_, q10_, q11_, q12_, q13_, q14_, q15_⟩ := q2)
  all_goals ((repeat' apply And.intro) <;> first | exact trivial | assumption | exact fun e => absurd e.1 (by assumption))

theorem fr_X10_house {P : Nat → Nat → Prop} {σ0 σ : mm_S} {a0 : Nat} (hP : ∀ a k, P a k → ¬ (a = a0 ∧ k = 11) ∧ a ≠ 220 ∧ a ≠ 217 ∧ ¬ (a = a0 ∧ k = 14) ∧ ¬ (a = a0 ∧ k = 8) ∧ ¬ (a = a0 ∧ k = 9) ∧ ¬ (a = a0 ∧ k = 12) ∧ a ≠ 218 ∧ a ≠ 216 ∧ ¬ (a = a0 ∧ k = 10) ∧ a ≠ 219 ∧ ¬ (a = a0 ∧ k = 16) ∧ ¬ (a = a0 ∧ k = 13) ∧ a ≠ 221 ∧ ¬ (a = a0 ∧ k = 1) ∧ ¬ (a = a0 ∧ k = 31) ∧ a ≠ 224) (h : ko_K P σ0 σ) : ko Prod.snd P σ0 (f_X10_house a0 σ) := by
  unfold f_X10_house
  repeat' with_reducible first
    | assumption
    | refine ko_someV ?_
    | refine ko_someR ?_
    | refine ko_ite ?_ ?_
    | refine ko_gd (fun _ => ?_)
    | refine ko_gz ?_
    | refine ko_gb ?_
    | refine ko_gq ?_
    | refine ko_gl ?_
    | refine ko_lts ?_ (fun _ _ => ?_)
    | refine ko_ltx (fun _ => ?_)
    | refine ko_bd ?_ (fun _ _ _ => ?_)
    | refine ko_bv ?_ (fun _ _ => ?_)
    | refine ko_sui (by assumption) ?_
    | refine ko_suj (by assumption) ?_
    | refine ko_suc (by assumption) ?_
    | refine ko_suw (by assumption) ?_
    | refine ko_none
    | (refine fr_X10_house_8 ?_ (by assumption))
  all_goals (intro a k q; have q2 := hP a k q; clear hP q; obtain ⟨q0_, q1_, q2_, q3_, q4_, q5_, q6_, q7_, q8_, q9_, q10_, q11_, q12_, q13_, q14_, q15_, q16_⟩ := q2)
  all_goals ((repeat' apply And.intro) <;> first | exact trivial | assumption | exact fun e => absurd e.1 (by assumption))

theorem fr_X10_isRule {P : Nat → Nat → Prop} {σ0 σ : mm_S} {a0 : Nat} {i1 : Int32} (hP : ∀ a k, P a k → True) (h : ko_K P σ0 σ) : ko Prod.snd P σ0 (f_X10_isRule a0 i1 σ) := by
  unfold f_X10_isRule
  repeat' with_reducible first
    | assumption
    | refine ko_someV ?_
    | refine ko_someR ?_
    | refine ko_ite ?_ ?_
    | refine ko_gd (fun _ => ?_)
    | refine ko_gz ?_
    | refine ko_gb ?_
    | refine ko_gq ?_
    | refine ko_gl ?_
    | refine ko_lts ?_ (fun _ _ => ?_)
    | refine ko_ltx (fun _ => ?_)
    | refine ko_bd ?_ (fun _ _ _ => ?_)
    | refine ko_bv ?_ (fun _ _ => ?_)
    | refine ko_sui (by assumption) ?_
    | refine ko_suj (by assumption) ?_
    | refine ko_suc (by assumption) ?_
    | refine ko_suw (by assumption) ?_
    | refine ko_none
  all_goals (intro a k q; have q2 := hP a k q; clear hP q)
  all_goals ((repeat' apply And.intro) <;> first | exact trivial | assumption)

theorem fr_X10_push {P : Nat → Nat → Prop} {σ0 σ : mm_S} {a0 : Nat} {j1 : Int64} (hP : ∀ a k, P a k → a ≠ 222 ∧ ¬ (a = a0 ∧ k = 18)) (h : ko_K P σ0 σ) : ko id P σ0 (f_X10_push a0 j1 σ) := by
  unfold f_X10_push
  repeat' with_reducible first
    | assumption
    | refine ko_someV ?_
    | refine ko_someR ?_
    | refine ko_ite ?_ ?_
    | refine ko_gd (fun _ => ?_)
    | refine ko_gz ?_
    | refine ko_gb ?_
    | refine ko_gq ?_
    | refine ko_gl ?_
    | refine ko_lts ?_ (fun _ _ => ?_)
    | refine ko_ltx (fun _ => ?_)
    | refine ko_bd ?_ (fun _ _ _ => ?_)
    | refine ko_bv ?_ (fun _ _ => ?_)
    | refine ko_sui (by assumption) ?_
    | refine ko_suj (by assumption) ?_
    | refine ko_suc (by assumption) ?_
    | refine ko_suw (by assumption) ?_
    | refine ko_none
  all_goals (intro a k q; have q2 := hP a k q; clear hP q; obtain ⟨q0_, q1_⟩ := q2)
  all_goals ((repeat' apply And.intro) <;> first | exact trivial | assumption | exact fun e => absurd e.1 (by assumption))

theorem fr_X10_pop {P : Nat → Nat → Prop} {σ0 σ : mm_S} {a0 : Nat} (hP : ∀ a k, P a k → ¬ (a = a0 ∧ k = 18)) (h : ko_K P σ0 σ) : ko Prod.snd P σ0 (f_X10_pop a0 σ) := by
  unfold f_X10_pop
  repeat' with_reducible first
    | assumption
    | refine ko_someV ?_
    | refine ko_someR ?_
    | refine ko_ite ?_ ?_
    | refine ko_gd (fun _ => ?_)
    | refine ko_gz ?_
    | refine ko_gb ?_
    | refine ko_gq ?_
    | refine ko_gl ?_
    | refine ko_lts ?_ (fun _ _ => ?_)
    | refine ko_ltx (fun _ => ?_)
    | refine ko_bd ?_ (fun _ _ _ => ?_)
    | refine ko_bv ?_ (fun _ _ => ?_)
    | refine ko_sui (by assumption) ?_
    | refine ko_suj (by assumption) ?_
    | refine ko_suc (by assumption) ?_
    | refine ko_suw (by assumption) ?_
    | refine ko_none
  all_goals (intro a k q; have q2 := hP a k q; clear hP q; have q0_ := q2; clear q2)
  all_goals ((repeat' apply And.intro) <;> first | exact trivial | assumption | exact fun e => absurd e.1 (by assumption))

theorem fr_X10_one {P : Nat → Nat → Prop} {σ0 σ : mm_S} {i0 : Int32} {j1 : Int64} {j3 : Int64} (hP : ∀ a k, P a k → True) (h : ko_K P σ0 σ) : ko Prod.snd P σ0 (f_X10_one i0 j1 j3 σ) := by
  unfold f_X10_one
  repeat' with_reducible first
    | assumption
    | refine ko_someV ?_
    | refine ko_someR ?_
    | refine ko_ite ?_ ?_
    | refine ko_gd (fun _ => ?_)
    | refine ko_gz ?_
    | refine ko_gb ?_
    | refine ko_gq ?_
    | refine ko_gl ?_
    | refine ko_lts ?_ (fun _ _ => ?_)
    | refine ko_ltx (fun _ => ?_)
    | refine ko_bd ?_ (fun _ _ _ => ?_)
    | refine ko_bv ?_ (fun _ _ => ?_)
    | refine ko_sui (by assumption) ?_
    | refine ko_suj (by assumption) ?_
    | refine ko_suc (by assumption) ?_
    | refine ko_suw (by assumption) ?_
    | refine ko_none
  all_goals (intro a k q; have q2 := hP a k q; clear hP q)
  all_goals ((repeat' apply And.intro) <;> first | exact trivial | assumption)

theorem fr_X10_reckons_8 {P : Nat → Nat → Prop} {σ0 σ : mm_S} {a0 : Nat} {i1 : Int32} {i3 : Int32} {i4 : Int32} (hP : ∀ a k, P a k → ¬ (a = a0 ∧ k = 18) ∧ a ≠ 222) (h : ko_K P σ0 σ) : ko Prod.snd P σ0 (f_X10_reckons_8 a0 i1 i3 i4 σ) := by
  unfold f_X10_reckons_8
  refine ko_lp (fun rec hrec v τ hτ => ?_) lpN _ _ h
  repeat' with_reducible first
    | assumption
    | refine ko_someV ?_
    | refine ko_someR ?_
    | refine ko_ite ?_ ?_
    | refine ko_gd (fun _ => ?_)
    | refine ko_gz ?_
    | refine ko_gb ?_
    | refine ko_gq ?_
    | refine ko_gl ?_
    | refine ko_lts ?_ (fun _ _ => ?_)
    | refine ko_ltx (fun _ => ?_)
    | refine ko_bd ?_ (fun _ _ _ => ?_)
    | refine ko_bv ?_ (fun _ _ => ?_)
    | refine ko_sui (by assumption) ?_
    | refine ko_suj (by assumption) ?_
    | refine ko_suc (by assumption) ?_
    | refine ko_suw (by assumption) ?_
    | refine ko_none
    | (apply hrec; assumption)
    | (refine fr_X10_pop ?_ (by assumption))
    | (refine fr_X10_push ?_ (by assumption))
    | (refine fr_X10_one ?_ (by assumption))
  all_goals (intro a k q; have q2 := hP a k q; clear hP q; obtain ⟨q0_, q1_⟩ := q2)
  all_goals ((repeat' apply And.intro) <;> first | exact trivial | assumption | exact fun e => absurd e.1 (by assumption))

theorem fr_X10_reckons {P : Nat → Nat → Prop} {σ0 σ : mm_S} {a0 : Nat} {i1 : Int32} {i2 : Int32} {i3 : Int32} (hP : ∀ a k, P a k → ¬ (a = a0 ∧ k = 18) ∧ a ≠ 222) (h : ko_K P σ0 σ) : ko Prod.snd P σ0 (f_X10_reckons a0 i1 i2 i3 σ) := by
  unfold f_X10_reckons
  repeat' with_reducible first
    | assumption
    | refine ko_someV ?_
    | refine ko_someR ?_
    | refine ko_ite ?_ ?_
    | refine ko_gd (fun _ => ?_)
    | refine ko_gz ?_
    | refine ko_gb ?_
    | refine ko_gq ?_
    | refine ko_gl ?_
    | refine ko_lts ?_ (fun _ _ => ?_)
    | refine ko_ltx (fun _ => ?_)
    | refine ko_bd ?_ (fun _ _ _ => ?_)
    | refine ko_bv ?_ (fun _ _ => ?_)
    | refine ko_sui (by assumption) ?_
    | refine ko_suj (by assumption) ?_
    | refine ko_suc (by assumption) ?_
    | refine ko_suw (by assumption) ?_
    | refine ko_none
    | (refine fr_X10_reckons_8 ?_ (by assumption))
  all_goals (intro a k q; have q2 := hP a k q; clear hP q; obtain ⟨q0_, q1_⟩ := q2)
  all_goals ((repeat' apply And.intro) <;> first | exact trivial | assumption | exact fun e => absurd e.1 (by assumption))

theorem fr_X10_isHouse {P : Nat → Nat → Prop} {σ0 σ : mm_S} {a0 : Nat} (hP : ∀ a k, P a k → True) (h : ko_K P σ0 σ) : ko Prod.snd P σ0 (f_X10_isHouse a0 σ) := by
  unfold f_X10_isHouse
  repeat' with_reducible first
    | assumption
    | refine ko_someV ?_
    | refine ko_someR ?_
    | refine ko_ite ?_ ?_
    | refine ko_gd (fun _ => ?_)
    | refine ko_gz ?_
    | refine ko_gb ?_
    | refine ko_gq ?_
    | refine ko_gl ?_
    | refine ko_lts ?_ (fun _ _ => ?_)
    | refine ko_ltx (fun _ => ?_)
    | refine ko_bd ?_ (fun _ _ _ => ?_)
    | refine ko_bv ?_ (fun _ _ => ?_)
    | refine ko_sui (by assumption) ?_
    | refine ko_suj (by assumption) ?_
    | refine ko_suc (by assumption) ?_
    | refine ko_suw (by assumption) ?_
    | refine ko_none
  all_goals (intro a k q; have q2 := hP a k q; clear hP q)
  all_goals ((repeat' apply And.intro) <;> first | exact trivial | assumption)

theorem fr_X10_isLodger {P : Nat → Nat → Prop} {σ0 σ : mm_S} {a0 : Nat} {i1 : Int32} (hP : ∀ a k, P a k → True) (h : ko_K P σ0 σ) : ko Prod.snd P σ0 (f_X10_isLodger a0 i1 σ) := by
  unfold f_X10_isLodger
  repeat' with_reducible first
    | assumption
    | refine ko_someV ?_
    | refine ko_someR ?_
    | refine ko_ite ?_ ?_
    | refine ko_gd (fun _ => ?_)
    | refine ko_gz ?_
    | refine ko_gb ?_
    | refine ko_gq ?_
    | refine ko_gl ?_
    | refine ko_lts ?_ (fun _ _ => ?_)
    | refine ko_ltx (fun _ => ?_)
    | refine ko_bd ?_ (fun _ _ _ => ?_)
    | refine ko_bv ?_ (fun _ _ => ?_)
    | refine ko_sui (by assumption) ?_
    | refine ko_suj (by assumption) ?_
    | refine ko_suc (by assumption) ?_
    | refine ko_suw (by assumption) ?_
    | refine ko_none
  all_goals (intro a k q; have q2 := hP a k q; clear hP q)
  all_goals ((repeat' apply And.intro) <;> first | exact trivial | assumption)

theorem fr_X10_tiredOf {P : Nat → Nat → Prop} {σ0 σ : mm_S} {a0 : Nat} {i1 : Int32} (hP : ∀ a k, P a k → True) (h : ko_K P σ0 σ) : ko Prod.snd P σ0 (f_X10_tiredOf a0 i1 σ) := by
  unfold f_X10_tiredOf
  repeat' with_reducible first
    | assumption
    | refine ko_someV ?_
    | refine ko_someR ?_
    | refine ko_ite ?_ ?_
    | refine ko_gd (fun _ => ?_)
    | refine ko_gz ?_
    | refine ko_gb ?_
    | refine ko_gq ?_
    | refine ko_gl ?_
    | refine ko_lts ?_ (fun _ _ => ?_)
    | refine ko_ltx (fun _ => ?_)
    | refine ko_bd ?_ (fun _ _ _ => ?_)
    | refine ko_bv ?_ (fun _ _ => ?_)
    | refine ko_sui (by assumption) ?_
    | refine ko_suj (by assumption) ?_
    | refine ko_suc (by assumption) ?_
    | refine ko_suw (by assumption) ?_
    | refine ko_none
  all_goals (intro a k q; have q2 := hP a k q; clear hP q)
  all_goals ((repeat' apply And.intro) <;> first | exact trivial | assumption)

theorem fr_X10_penceOf {P : Nat → Nat → Prop} {σ0 σ : mm_S} {a0 : Nat} {i1 : Int32} (hP : ∀ a k, P a k → True) (h : ko_K P σ0 σ) : ko Prod.snd P σ0 (f_X10_penceOf a0 i1 σ) := by
  unfold f_X10_penceOf
  repeat' with_reducible first
    | assumption
    | refine ko_someV ?_
    | refine ko_someR ?_
    | refine ko_ite ?_ ?_
    | refine ko_gd (fun _ => ?_)
    | refine ko_gz ?_
    | refine ko_gb ?_
    | refine ko_gq ?_
    | refine ko_gl ?_
    | refine ko_lts ?_ (fun _ _ => ?_)
    | refine ko_ltx (fun _ => ?_)
    | refine ko_bd ?_ (fun _ _ _ => ?_)
    | refine ko_bv ?_ (fun _ _ => ?_)
    | refine ko_sui (by assumption) ?_
    | refine ko_suj (by assumption) ?_
    | refine ko_suc (by assumption) ?_
    | refine ko_suw (by assumption) ?_
    | refine ko_none
  all_goals (intro a k q; have q2 := hP a k q; clear hP q)
  all_goals ((repeat' apply And.intro) <;> first | exact trivial | assumption)

theorem fr_X10_isIn {P : Nat → Nat → Prop} {σ0 σ : mm_S} {a0 : Nat} {i1 : Int32} (hP : ∀ a k, P a k → True) (h : ko_K P σ0 σ) : ko Prod.snd P σ0 (f_X10_isIn a0 i1 σ) := by
  unfold f_X10_isIn
  repeat' with_reducible first
    | assumption
    | refine ko_someV ?_
    | refine ko_someR ?_
    | refine ko_ite ?_ ?_
    | refine ko_gd (fun _ => ?_)
    | refine ko_gz ?_
    | refine ko_gb ?_
    | refine ko_gq ?_
    | refine ko_gl ?_
    | refine ko_lts ?_ (fun _ _ => ?_)
    | refine ko_ltx (fun _ => ?_)
    | refine ko_bd ?_ (fun _ _ _ => ?_)
    | refine ko_bv ?_ (fun _ _ => ?_)
    | refine ko_sui (by assumption) ?_
    | refine ko_suj (by assumption) ?_
    | refine ko_suc (by assumption) ?_
    | refine ko_suw (by assumption) ?_
    | refine ko_none
  all_goals (intro a k q; have q2 := hP a k q; clear hP q)
  all_goals ((repeat' apply And.intro) <;> first | exact trivial | assumption)

theorem fr_X10_soughtBy {P : Nat → Nat → Prop} {σ0 σ : mm_S} {a0 : Nat} {i1 : Int32} (hP : ∀ a k, P a k → True) (h : ko_K P σ0 σ) : ko Prod.snd P σ0 (f_X10_soughtBy a0 i1 σ) := by
  unfold f_X10_soughtBy
  repeat' with_reducible first
    | assumption
    | refine ko_someV ?_
    | refine ko_someR ?_
    | refine ko_ite ?_ ?_
    | refine ko_gd (fun _ => ?_)
    | refine ko_gz ?_
    | refine ko_gb ?_
    | refine ko_gq ?_
    | refine ko_gl ?_
    | refine ko_lts ?_ (fun _ _ => ?_)
    | refine ko_ltx (fun _ => ?_)
    | refine ko_bd ?_ (fun _ _ _ => ?_)
    | refine ko_bv ?_ (fun _ _ => ?_)
    | refine ko_sui (by assumption) ?_
    | refine ko_suj (by assumption) ?_
    | refine ko_suc (by assumption) ?_
    | refine ko_suw (by assumption) ?_
    | refine ko_none
  all_goals (intro a k q; have q2 := hP a k q; clear hP q)
  all_goals ((repeat' apply And.intro) <;> first | exact trivial | assumption)

theorem fr_X10_sleptBy {P : Nat → Nat → Prop} {σ0 σ : mm_S} {a0 : Nat} {i1 : Int32} (hP : ∀ a k, P a k → True) (h : ko_K P σ0 σ) : ko Prod.snd P σ0 (f_X10_sleptBy a0 i1 σ) := by
  unfold f_X10_sleptBy
  repeat' with_reducible first
    | assumption
    | refine ko_someV ?_
    | refine ko_someR ?_
    | refine ko_ite ?_ ?_
    | refine ko_gd (fun _ => ?_)
    | refine ko_gz ?_
    | refine ko_gb ?_
    | refine ko_gq ?_
    | refine ko_gl ?_
    | refine ko_lts ?_ (fun _ _ => ?_)
    | refine ko_ltx (fun _ => ?_)
    | refine ko_bd ?_ (fun _ _ _ => ?_)
    | refine ko_bv ?_ (fun _ _ => ?_)
    | refine ko_sui (by assumption) ?_
    | refine ko_suj (by assumption) ?_
    | refine ko_suc (by assumption) ?_
    | refine ko_suw (by assumption) ?_
    | refine ko_none
  all_goals (intro a k q; have q2 := hP a k q; clear hP q)
  all_goals ((repeat' apply And.intro) <;> first | exact trivial | assumption)

theorem fr_X10_inside_4 {P : Nat → Nat → Prop} {σ0 σ : mm_S} {a0 : Nat} {i1 : Int32} {i2 : Int32} (hP : ∀ a k, P a k → True) (h : ko_K P σ0 σ) : ko Prod.snd P σ0 (f_X10_inside_4 a0 i1 i2 σ) := by
  unfold f_X10_inside_4
  refine ko_lp (fun rec hrec v τ hτ => ?_) lpN _ _ h
  repeat' with_reducible first
    | assumption
    | refine ko_someV ?_
    | refine ko_someR ?_
    | refine ko_ite ?_ ?_
    | refine ko_gd (fun _ => ?_)
    | refine ko_gz ?_
    | refine ko_gb ?_
    | refine ko_gq ?_
    | refine ko_gl ?_
    | refine ko_lts ?_ (fun _ _ => ?_)
    | refine ko_ltx (fun _ => ?_)
    | refine ko_bd ?_ (fun _ _ _ => ?_)
    | refine ko_bv ?_ (fun _ _ => ?_)
    | refine ko_sui (by assumption) ?_
    | refine ko_suj (by assumption) ?_
    | refine ko_suc (by assumption) ?_
    | refine ko_suw (by assumption) ?_
    | refine ko_none
    | (apply hrec; assumption)
    | (refine fr_X10_isIn ?_ (by assumption))
  all_goals (intro a k q; have q2 := hP a k q; clear hP q)
  all_goals ((repeat' apply And.intro) <;> first | exact trivial | assumption)

theorem fr_X10_inside {P : Nat → Nat → Prop} {σ0 σ : mm_S} {a0 : Nat} (hP : ∀ a k, P a k → True) (h : ko_K P σ0 σ) : ko Prod.snd P σ0 (f_X10_inside a0 σ) := by
  unfold f_X10_inside
  repeat' with_reducible first
    | assumption
    | refine ko_someV ?_
    | refine ko_someR ?_
    | refine ko_ite ?_ ?_
    | refine ko_gd (fun _ => ?_)
    | refine ko_gz ?_
    | refine ko_gb ?_
    | refine ko_gq ?_
    | refine ko_gl ?_
    | refine ko_lts ?_ (fun _ _ => ?_)
    | refine ko_ltx (fun _ => ?_)
    | refine ko_bd ?_ (fun _ _ _ => ?_)
    | refine ko_bv ?_ (fun _ _ => ?_)
    | refine ko_sui (by assumption) ?_
    | refine ko_suj (by assumption) ?_
    | refine ko_suc (by assumption) ?_
    | refine ko_suw (by assumption) ?_
    | refine ko_none
    | (refine fr_X10_inside_4 ?_ (by assumption))
  all_goals (intro a k q; have q2 := hP a k q; clear hP q)
  all_goals ((repeat' apply And.intro) <;> first | exact trivial | assumption)

theorem fr_X10_soughtOnes_4 {P : Nat → Nat → Prop} {σ0 σ : mm_S} {a0 : Nat} {i1 : Int32} {i2 : Int32} (hP : ∀ a k, P a k → True) (h : ko_K P σ0 σ) : ko Prod.snd P σ0 (f_X10_soughtOnes_4 a0 i1 i2 σ) := by
  unfold f_X10_soughtOnes_4
  refine ko_lp (fun rec hrec v τ hτ => ?_) lpN _ _ h
  repeat' with_reducible first
    | assumption
    | refine ko_someV ?_
    | refine ko_someR ?_
    | refine ko_ite ?_ ?_
    | refine ko_gd (fun _ => ?_)
    | refine ko_gz ?_
    | refine ko_gb ?_
    | refine ko_gq ?_
    | refine ko_gl ?_
    | refine ko_lts ?_ (fun _ _ => ?_)
    | refine ko_ltx (fun _ => ?_)
    | refine ko_bd ?_ (fun _ _ _ => ?_)
    | refine ko_bv ?_ (fun _ _ => ?_)
    | refine ko_sui (by assumption) ?_
    | refine ko_suj (by assumption) ?_
    | refine ko_suc (by assumption) ?_
    | refine ko_suw (by assumption) ?_
    | refine ko_none
    | (apply hrec; assumption)
    | (refine fr_X10_soughtBy ?_ (by assumption))
  all_goals (intro a k q; have q2 := hP a k q; clear hP q)
  all_goals ((repeat' apply And.intro) <;> first | exact trivial | assumption)

theorem fr_X10_soughtOnes {P : Nat → Nat → Prop} {σ0 σ : mm_S} {a0 : Nat} (hP : ∀ a k, P a k → True) (h : ko_K P σ0 σ) : ko Prod.snd P σ0 (f_X10_soughtOnes a0 σ) := by
  unfold f_X10_soughtOnes
  repeat' with_reducible first
    | assumption
    | refine ko_someV ?_
    | refine ko_someR ?_
    | refine ko_ite ?_ ?_
    | refine ko_gd (fun _ => ?_)
    | refine ko_gz ?_
    | refine ko_gb ?_
    | refine ko_gq ?_
    | refine ko_gl ?_
    | refine ko_lts ?_ (fun _ _ => ?_)
    | refine ko_ltx (fun _ => ?_)
    | refine ko_bd ?_ (fun _ _ _ => ?_)
    | refine ko_bv ?_ (fun _ _ => ?_)
    | refine ko_sui (by assumption) ?_
    | refine ko_suj (by assumption) ?_
    | refine ko_suc (by assumption) ?_
    | refine ko_suw (by assumption) ?_
    | refine ko_none
    | (refine fr_X10_soughtOnes_4 ?_ (by assumption))
  all_goals (intro a k q; have q2 := hP a k q; clear hP q)
  all_goals ((repeat' apply And.intro) <;> first | exact trivial | assumption)

theorem fr_X10_tiredAll_4 {P : Nat → Nat → Prop} {σ0 σ : mm_S} {a0 : Nat} {i1 : Int32} {i2 : Int32} (hP : ∀ a k, P a k → True) (h : ko_K P σ0 σ) : ko Prod.snd P σ0 (f_X10_tiredAll_4 a0 i1 i2 σ) := by
  unfold f_X10_tiredAll_4
  refine ko_lp (fun rec hrec v τ hτ => ?_) lpN _ _ h
  repeat' with_reducible first
    | assumption
    | refine ko_someV ?_
    | refine ko_someR ?_
    | refine ko_ite ?_ ?_
    | refine ko_gd (fun _ => ?_)
    | refine ko_gz ?_
    | refine ko_gb ?_
    | refine ko_gq ?_
    | refine ko_gl ?_
    | refine ko_lts ?_ (fun _ _ => ?_)
    | refine ko_ltx (fun _ => ?_)
    | refine ko_bd ?_ (fun _ _ _ => ?_)
    | refine ko_bv ?_ (fun _ _ => ?_)
    | refine ko_sui (by assumption) ?_
    | refine ko_suj (by assumption) ?_
    | refine ko_suc (by assumption) ?_
    | refine ko_suw (by assumption) ?_
    | refine ko_none
    | (apply hrec; assumption)
    | (refine fr_X10_tiredOf ?_ (by assumption))
  all_goals (intro a k q; have q2 := hP a k q; clear hP q)
  all_goals ((repeat' apply And.intro) <;> first | exact trivial | assumption)

theorem fr_X10_tiredAll {P : Nat → Nat → Prop} {σ0 σ : mm_S} {a0 : Nat} (hP : ∀ a k, P a k → True) (h : ko_K P σ0 σ) : ko Prod.snd P σ0 (f_X10_tiredAll a0 σ) := by
  unfold f_X10_tiredAll
  repeat' with_reducible first
    | assumption
    | refine ko_someV ?_
    | refine ko_someR ?_
    | refine ko_ite ?_ ?_
    | refine ko_gd (fun _ => ?_)
    | refine ko_gz ?_
    | refine ko_gb ?_
    | refine ko_gq ?_
    | refine ko_gl ?_
    | refine ko_lts ?_ (fun _ _ => ?_)
    | refine ko_ltx (fun _ => ?_)
    | refine ko_bd ?_ (fun _ _ _ => ?_)
    | refine ko_bv ?_ (fun _ _ => ?_)
    | refine ko_sui (by assumption) ?_
    | refine ko_suj (by assumption) ?_
    | refine ko_suc (by assumption) ?_
    | refine ko_suw (by assumption) ?_
    | refine ko_none
    | (refine fr_X10_tiredAll_4 ?_ (by assumption))
  all_goals (intro a k q; have q2 := hP a k q; clear hP q)
  all_goals ((repeat' apply And.intro) <;> first | exact trivial | assumption)

theorem fr_X10_sleptAll_4 {P : Nat → Nat → Prop} {σ0 σ : mm_S} {a0 : Nat} {i1 : Int32} {i2 : Int32} (hP : ∀ a k, P a k → True) (h : ko_K P σ0 σ) : ko Prod.snd P σ0 (f_X10_sleptAll_4 a0 i1 i2 σ) := by
  unfold f_X10_sleptAll_4
  refine ko_lp (fun rec hrec v τ hτ => ?_) lpN _ _ h
  repeat' with_reducible first
    | assumption
    | refine ko_someV ?_
    | refine ko_someR ?_
    | refine ko_ite ?_ ?_
    | refine ko_gd (fun _ => ?_)
    | refine ko_gz ?_
    | refine ko_gb ?_
    | refine ko_gq ?_
    | refine ko_gl ?_
    | refine ko_lts ?_ (fun _ _ => ?_)
    | refine ko_ltx (fun _ => ?_)
    | refine ko_bd ?_ (fun _ _ _ => ?_)
    | refine ko_bv ?_ (fun _ _ => ?_)
    | refine ko_sui (by assumption) ?_
    | refine ko_suj (by assumption) ?_
    | refine ko_suc (by assumption) ?_
    | refine ko_suw (by assumption) ?_
    | refine ko_none
    | (apply hrec; assumption)
    | (refine fr_X10_sleptBy ?_ (by assumption))
  all_goals (intro a k q; have q2 := hP a k q; clear hP q)
  all_goals ((repeat' apply And.intro) <;> first | exact trivial | assumption)

theorem fr_X10_sleptAll {P : Nat → Nat → Prop} {σ0 σ : mm_S} {a0 : Nat} (hP : ∀ a k, P a k → True) (h : ko_K P σ0 σ) : ko Prod.snd P σ0 (f_X10_sleptAll a0 σ) := by
  unfold f_X10_sleptAll
  repeat' with_reducible first
    | assumption
    | refine ko_someV ?_
    | refine ko_someR ?_
    | refine ko_ite ?_ ?_
    | refine ko_gd (fun _ => ?_)
    | refine ko_gz ?_
    | refine ko_gb ?_
    | refine ko_gq ?_
    | refine ko_gl ?_
    | refine ko_lts ?_ (fun _ _ => ?_)
    | refine ko_ltx (fun _ => ?_)
    | refine ko_bd ?_ (fun _ _ _ => ?_)
    | refine ko_bv ?_ (fun _ _ => ?_)
    | refine ko_sui (by assumption) ?_
    | refine ko_suj (by assumption) ?_
    | refine ko_suc (by assumption) ?_
    | refine ko_suw (by assumption) ?_
    | refine ko_none
    | (refine fr_X10_sleptAll_4 ?_ (by assumption))
  all_goals (intro a k q; have q2 := hP a k q; clear hP q)
  all_goals ((repeat' apply And.intro) <;> first | exact trivial | assumption)

theorem fr_X10_isCounted {P : Nat → Nat → Prop} {σ0 σ : mm_S} {a0 : Nat} (hP : ∀ a k, P a k → True) (h : ko_K P σ0 σ) : ko Prod.snd P σ0 (f_X10_isCounted a0 σ) := by
  unfold f_X10_isCounted
  repeat' with_reducible first
    | assumption
    | refine ko_someV ?_
    | refine ko_someR ?_
    | refine ko_ite ?_ ?_
    | refine ko_gd (fun _ => ?_)
    | refine ko_gz ?_
    | refine ko_gb ?_
    | refine ko_gq ?_
    | refine ko_gl ?_
    | refine ko_lts ?_ (fun _ _ => ?_)
    | refine ko_ltx (fun _ => ?_)
    | refine ko_bd ?_ (fun _ _ _ => ?_)
    | refine ko_bv ?_ (fun _ _ => ?_)
    | refine ko_sui (by assumption) ?_
    | refine ko_suj (by assumption) ?_
    | refine ko_suc (by assumption) ?_
    | refine ko_suw (by assumption) ?_
    | refine ko_none
    | (refine fr_X10_isOf ?_ (by assumption))
  all_goals (intro a k q; have q2 := hP a k q; clear hP q)
  all_goals ((repeat' apply And.intro) <;> first | exact trivial | assumption)

theorem fr_X10_force_16 {P : Nat → Nat → Prop} {σ0 σ : mm_S} {a0 : Nat} {i1 : Int32} (hP : ∀ a k, P a k → ¬ (a = a0 ∧ k = 21)) (h : ko_K P σ0 σ) : ko Prod.snd P σ0 (f_X10_force_16 a0 i1 σ) := by
  unfold f_X10_force_16
  repeat' with_reducible first
    | assumption
    | refine ko_someV ?_
    | refine ko_someR ?_
    | refine ko_ite ?_ ?_
    | refine ko_gd (fun _ => ?_)
    | refine ko_gz ?_
    | refine ko_gb ?_
    | refine ko_gq ?_
    | refine ko_gl ?_
    | refine ko_lts ?_ (fun _ _ => ?_)
    | refine ko_ltx (fun _ => ?_)
    | refine ko_bd ?_ (fun _ _ _ => ?_)
    | refine ko_bv ?_ (fun _ _ => ?_)
    | refine ko_sui (by assumption) ?_
    | refine ko_suj (by assumption) ?_
    | refine ko_suc (by assumption) ?_
    | refine ko_suw (by assumption) ?_
    | refine ko_none
  all_goals (intro a k q; have q2 := hP a k q; clear hP q; have q0_ := q2; clear q2)
  all_goals ((repeat' apply And.intro) <;> first | exact trivial | assumption | exact fun e => absurd e.1 (by assumption))

theorem fr_X10_force {P : Nat → Nat → Prop} {σ0 σ : mm_S} {a0 : Nat} {i1 : Int32} (hP : ∀ a k, P a k → ¬ (a = a0 ∧ k = 21)) (h : ko_K P σ0 σ) : ko Prod.snd P σ0 (f_X10_force a0 i1 σ) := by
  unfold f_X10_force
  repeat' with_reducible first
    | assumption
    | refine ko_someV ?_
    | refine ko_someR ?_
    | refine ko_ite ?_ ?_
    | refine ko_gd (fun _ => ?_)
    | refine ko_gz ?_
    | refine ko_gb ?_
    | refine ko_gq ?_
    | refine ko_gl ?_
    | refine ko_lts ?_ (fun _ _ => ?_)
    | refine ko_ltx (fun _ => ?_)
    | refine ko_bd ?_ (fun _ _ _ => ?_)
    | refine ko_bv ?_ (fun _ _ => ?_)
    | refine ko_sui (by assumption) ?_
    | refine ko_suj (by assumption) ?_
    | refine ko_suc (by assumption) ?_
    | refine ko_suw (by assumption) ?_
    | refine ko_none
    | (refine fr_X10_force_16 ?_ (by assumption))
    | (refine fr_X10_isRule ?_ (by assumption))
  all_goals (intro a k q; have q2 := hP a k q; clear hP q; have q0_ := q2; clear q2)
  all_goals ((repeat' apply And.intro) <;> first | exact trivial | assumption | exact fun e => absurd e.1 (by assumption))

theorem fr_X10_lodger {P : Nat → Nat → Prop} {σ0 σ : mm_S} {a0 : Nat} {i1 : Int32} {i2 : Int32} (hP : ∀ a k, P a k → True) (h : ko_K P σ0 σ) : ko Prod.snd P σ0 (f_X10_lodger a0 i1 i2 σ) := by
  unfold f_X10_lodger
  repeat' with_reducible first
    | assumption
    | refine ko_someV ?_
    | refine ko_someR ?_
    | refine ko_ite ?_ ?_
    | refine ko_gd (fun _ => ?_)
    | refine ko_gz ?_
    | refine ko_gb ?_
    | refine ko_gq ?_
    | refine ko_gl ?_
    | refine ko_lts ?_ (fun _ _ => ?_)
    | refine ko_ltx (fun _ => ?_)
    | refine ko_bd ?_ (fun _ _ _ => ?_)
    | refine ko_bv ?_ (fun _ _ => ?_)
    | refine ko_sui (by assumption) ?_
    | refine ko_suj (by assumption) ?_
    | refine ko_suc (by assumption) ?_
    | refine ko_suw (by assumption) ?_
    | refine ko_none
    | (refine fr_X10_isLodger ?_ (by assumption))
    | (refine fr_X10_in ?_ (by assumption))
  all_goals (intro a k q; have q2 := hP a k q; clear hP q)
  all_goals ((repeat' apply And.intro) <;> first | exact trivial | assumption)

theorem fr_X10_areTwo {P : Nat → Nat → Prop} {σ0 σ : mm_S} {a0 : Nat} {i1 : Int32} {i2 : Int32} (hP : ∀ a k, P a k → True) (h : ko_K P σ0 σ) : ko Prod.snd P σ0 (f_X10_areTwo a0 i1 i2 σ) := by
  unfold f_X10_areTwo
  repeat' with_reducible first
    | assumption
    | refine ko_someV ?_
    | refine ko_someR ?_
    | refine ko_ite ?_ ?_
    | refine ko_gd (fun _ => ?_)
    | refine ko_gz ?_
    | refine ko_gb ?_
    | refine ko_gq ?_
    | refine ko_gl ?_
    | refine ko_lts ?_ (fun _ _ => ?_)
    | refine ko_ltx (fun _ => ?_)
    | refine ko_bd ?_ (fun _ _ _ => ?_)
    | refine ko_bv ?_ (fun _ _ => ?_)
    | refine ko_sui (by assumption) ?_
    | refine ko_suj (by assumption) ?_
    | refine ko_suc (by assumption) ?_
    | refine ko_suw (by assumption) ?_
    | refine ko_none
    | (refine fr_X10_isLodger ?_ (by assumption))
  all_goals (intro a k q; have q2 := hP a k q; clear hP q)
  all_goals ((repeat' apply And.intro) <;> first | exact trivial | assumption)

theorem fr_X10_dear {P : Nat → Nat → Prop} {σ0 σ : mm_S} {a0 : Nat} {i1 : Int32} {i2 : Int32} (hP : ∀ a k, P a k → True) (h : ko_K P σ0 σ) : ko Prod.snd P σ0 (f_X10_dear a0 i1 i2 σ) := by
  unfold f_X10_dear
  repeat' with_reducible first
    | assumption
    | refine ko_someV ?_
    | refine ko_someR ?_
    | refine ko_ite ?_ ?_
    | refine ko_gd (fun _ => ?_)
    | refine ko_gz ?_
    | refine ko_gb ?_
    | refine ko_gq ?_
    | refine ko_gl ?_
    | refine ko_lts ?_ (fun _ _ => ?_)
    | refine ko_ltx (fun _ => ?_)
    | refine ko_bd ?_ (fun _ _ _ => ?_)
    | refine ko_bv ?_ (fun _ _ => ?_)
    | refine ko_sui (by assumption) ?_
    | refine ko_suj (by assumption) ?_
    | refine ko_suc (by assumption) ?_
    | refine ko_suw (by assumption) ?_
    | refine ko_none
    | (refine fr_X10_areTwo ?_ (by assumption))
  all_goals (intro a k q; have q2 := hP a k q; clear hP q)
  all_goals ((repeat' apply And.intro) <;> first | exact trivial | assumption)

theorem fr_X10_summedBy_58 {P : Nat → Nat → Prop} {σ0 σ : mm_S} {a0 : Nat} {i1 : Int32} {i3 : Int32} (hP : ∀ a k, P a k → ¬ (a = a0 ∧ k = 18) ∧ a ≠ 222) (h : ko_K P σ0 σ) : ko Prod.snd P σ0 (f_X10_summedBy_58 a0 i1 i3 σ) := by
  unfold f_X10_summedBy_58
  repeat' with_reducible first
    | assumption
    | refine ko_someV ?_
    | refine ko_someR ?_
    | refine ko_ite ?_ ?_
    | refine ko_gd (fun _ => ?_)
    | refine ko_gz ?_
    | refine ko_gb ?_
    | refine ko_gq ?_
    | refine ko_gl ?_
    | refine ko_lts ?_ (fun _ _ => ?_)
    | refine ko_ltx (fun _ => ?_)
    | refine ko_bd ?_ (fun _ _ _ => ?_)
    | refine ko_bv ?_ (fun _ _ => ?_)
    | refine ko_sui (by assumption) ?_
    | refine ko_suj (by assumption) ?_
    | refine ko_suc (by assumption) ?_
    | refine ko_suw (by assumption) ?_
    | refine ko_none
    | (refine fr_X10_reckons ?_ (by assumption))
  all_goals (intro a k q; have q2 := hP a k q; clear hP q; obtain ⟨q0_, q1_⟩ := q2)
  all_goals ((repeat' apply And.intro) <;> first | exact trivial | assumption | exact fun e => absurd e.1 (by assumption))

theorem fr_X10_summedBy_2 {P : Nat → Nat → Prop} {σ0 σ : mm_S} {a0 : Nat} {i1 : Int32} {i2 : Int32} (hP : ∀ a k, P a k → ¬ (a = a0 ∧ k = 18) ∧ a ≠ 222) (h : ko_K P σ0 σ) : ko Prod.snd P σ0 (f_X10_summedBy_2 a0 i1 i2 σ) := by
  unfold f_X10_summedBy_2
  refine ko_lp (fun rec hrec v τ hτ => ?_) lpN _ _ h
  repeat' with_reducible first
    | assumption
    | refine ko_someV ?_
    | refine ko_someR ?_
    | refine ko_ite ?_ ?_
    | refine ko_gd (fun _ => ?_)
    | refine ko_gz ?_
    | refine ko_gb ?_
    | refine ko_gq ?_
    | refine ko_gl ?_
    | refine ko_lts ?_ (fun _ _ => ?_)
    | refine ko_ltx (fun _ => ?_)
    | refine ko_bd ?_ (fun _ _ _ => ?_)
    | refine ko_bv ?_ (fun _ _ => ?_)
    | refine ko_sui (by assumption) ?_
    | refine ko_suj (by assumption) ?_
    | refine ko_suc (by assumption) ?_
    | refine ko_suw (by assumption) ?_
    | refine ko_none
    | (apply hrec; assumption)
    | (refine fr_X10_summedBy_58 ?_ (by assumption))
    | (refine fr_X10_reckons ?_ (by assumption))
  all_goals (intro a k q; have q2 := hP a k q; clear hP q; obtain ⟨q0_, q1_⟩ := q2)
  all_goals ((repeat' apply And.intro) <;> first | exact trivial | assumption | exact fun e => absurd e.1 (by assumption))

theorem fr_X10_summedBy {P : Nat → Nat → Prop} {σ0 σ : mm_S} {a0 : Nat} {i1 : Int32} (hP : ∀ a k, P a k → ¬ (a = a0 ∧ k = 18) ∧ a ≠ 222) (h : ko_K P σ0 σ) : ko Prod.snd P σ0 (f_X10_summedBy a0 i1 σ) := by
  unfold f_X10_summedBy
  repeat' with_reducible first
    | assumption
    | refine ko_someV ?_
    | refine ko_someR ?_
    | refine ko_ite ?_ ?_
    | refine ko_gd (fun _ => ?_)
    | refine ko_gz ?_
    | refine ko_gb ?_
    | refine ko_gq ?_
    | refine ko_gl ?_
    | refine ko_lts ?_ (fun _ _ => ?_)
    | refine ko_ltx (fun _ => ?_)
    | refine ko_bd ?_ (fun _ _ _ => ?_)
    | refine ko_bv ?_ (fun _ _ => ?_)
    | refine ko_sui (by assumption) ?_
    | refine ko_suj (by assumption) ?_
    | refine ko_suc (by assumption) ?_
    | refine ko_suw (by assumption) ?_
    | refine ko_none
    | (refine fr_X10_summedBy_2 ?_ (by assumption))
  all_goals (intro a k q; have q2 := hP a k q; clear hP q; obtain ⟨q0_, q1_⟩ := q2)
  all_goals ((repeat' apply And.intro) <;> first | exact trivial | assumption | exact fun e => absurd e.1 (by assumption))

theorem fr_X10_sumOf_121 {P : Nat → Nat → Prop} {σ0 σ : mm_S} {a0 : Nat} {i2 : Int32} {s0 : Nat} {s1 : Int32} {s2 : Int64} (hP : ∀ a k, P a k → a ≠ s0 ∧ a ≠ 223 ∧ ¬ (a = a0 ∧ k = 18) ∧ a ≠ 222) (h : ko_K P σ0 σ) : ko Prod.snd P σ0 (f_X10_sumOf_121 a0 i2 s0 s1 s2 σ) := by
  unfold f_X10_sumOf_121
  repeat' with_reducible first
    | assumption
    | refine ko_someV ?_
    | refine ko_someR ?_
    | refine ko_ite ?_ ?_
    | refine ko_gd (fun _ => ?_)
    | refine ko_gz ?_
    | refine ko_gb ?_
    | refine ko_gq ?_
    | refine ko_gl ?_
    | refine ko_lts ?_ (fun _ _ => ?_)
    | refine ko_ltx (fun _ => ?_)
    | refine ko_bd ?_ (fun _ _ _ => ?_)
    | refine ko_bv ?_ (fun _ _ => ?_)
    | refine ko_sui (by assumption) ?_
    | refine ko_suj (by assumption) ?_
    | refine ko_suc (by assumption) ?_
    | refine ko_suw (by assumption) ?_
    | refine ko_none
    | (refine fr_X10_inside ?_ (by assumption))
    | (refine fr_X10_bits ?_ (by assumption))
    | (refine fr_X10_summedBy ?_ (by assumption))
  all_goals (intro a k q; have q2 := hP a k q; clear hP q; obtain ⟨q0_, q1_, q2_, q3_⟩ := q2)
  all_goals ((repeat' apply And.intro) <;> first | exact trivial | assumption | exact fun e => absurd e.1 (by assumption))

theorem fr_X10_sumOf {P : Nat → Nat → Prop} {σ0 σ : mm_S} {a0 : Nat} {i1 : Int32} {i2 : Int32} (hP : ∀ a k, P a k → a ≠ 223 ∧ ¬ (a = a0 ∧ k = 18) ∧ a ≠ 222) (h : ko_K P σ0 σ) : ko Prod.snd P σ0 (f_X10_sumOf a0 i1 i2 σ) := by
  unfold f_X10_sumOf
  repeat' with_reducible first
    | assumption
    | refine ko_someV ?_
    | refine ko_someR ?_
    | refine ko_ite ?_ ?_
    | refine ko_gd (fun _ => ?_)
    | refine ko_gz ?_
    | refine ko_gb ?_
    | refine ko_gq ?_
    | refine ko_gl ?_
    | refine ko_lts ?_ (fun _ _ => ?_)
    | refine ko_ltx (fun _ => ?_)
    | refine ko_bd ?_ (fun _ _ _ => ?_)
    | refine ko_bv ?_ (fun _ _ => ?_)
    | refine ko_sui (by assumption) ?_
    | refine ko_suj (by assumption) ?_
    | refine ko_suc (by assumption) ?_
    | refine ko_suw (by assumption) ?_
    | refine ko_none
    | (refine fr_X10_tiredOf ?_ (by assumption))
    | (refine fr_X10_penceOf ?_ (by assumption))
    | (refine fr_X10_sumOf_121 ?_ (by assumption))
  all_goals (intro a k q; have q2 := hP a k q; clear hP q; obtain ⟨q0_, q1_, q2_⟩ := q2)
  all_goals ((repeat' apply And.intro) <;> first | exact trivial | assumption | exact fun e => absurd e.1 (by assumption))

theorem fr_X10_choice_7 {P : Nat → Nat → Prop} {σ0 σ : mm_S} {a0 : Nat} {i1 : Int32} {i2 : Int32} {j3 : Int64} {i5 : Int32} (hP : ∀ a k, P a k → a ≠ 223 ∧ ¬ (a = a0 ∧ k = 18) ∧ a ≠ 222) (h : ko_K P σ0 σ) : ko Prod.snd P σ0 (f_X10_choice_7 a0 i1 i2 j3 i5 σ) := by
  unfold f_X10_choice_7
  refine ko_lp (fun rec hrec v τ hτ => ?_) lpN _ _ h
  repeat' with_reducible first
    | assumption
    | refine ko_someV ?_
    | refine ko_someR ?_
    | refine ko_ite ?_ ?_
    | refine ko_gd (fun _ => ?_)
    | refine ko_gz ?_
    | refine ko_gb ?_
    | refine ko_gq ?_
    | refine ko_gl ?_
    | refine ko_lts ?_ (fun _ _ => ?_)
    | refine ko_ltx (fun _ => ?_)
    | refine ko_bd ?_ (fun _ _ _ => ?_)
    | refine ko_bv ?_ (fun _ _ => ?_)
    | refine ko_sui (by assumption) ?_
    | refine ko_suj (by assumption) ?_
    | refine ko_suc (by assumption) ?_
    | refine ko_suw (by assumption) ?_
    | refine ko_none
    | (apply hrec; assumption)
    | (refine fr_X10_sumOf ?_ (by assumption))
  all_goals (intro a k q; have q2 := hP a k q; clear hP q; obtain ⟨q0_, q1_, q2_⟩ := q2)
  all_goals ((repeat' apply And.intro) <;> first | exact trivial | assumption | exact fun e => absurd e.1 (by assumption))

theorem fr_X10_choice {P : Nat → Nat → Prop} {σ0 σ : mm_S} {a0 : Nat} {i1 : Int32} (hP : ∀ a k, P a k → a ≠ 223 ∧ ¬ (a = a0 ∧ k = 18) ∧ a ≠ 222) (h : ko_K P σ0 σ) : ko Prod.snd P σ0 (f_X10_choice a0 i1 σ) := by
  unfold f_X10_choice
  repeat' with_reducible first
    | assumption
    | refine ko_someV ?_
    | refine ko_someR ?_
    | refine ko_ite ?_ ?_
    | refine ko_gd (fun _ => ?_)
    | refine ko_gz ?_
    | refine ko_gb ?_
    | refine ko_gq ?_
    | refine ko_gl ?_
    | refine ko_lts ?_ (fun _ _ => ?_)
    | refine ko_ltx (fun _ => ?_)
    | refine ko_bd ?_ (fun _ _ _ => ?_)
    | refine ko_bv ?_ (fun _ _ => ?_)
    | refine ko_sui (by assumption) ?_
    | refine ko_suj (by assumption) ?_
    | refine ko_suc (by assumption) ?_
    | refine ko_suw (by assumption) ?_
    | refine ko_none
    | (refine fr_X10_choice_7 ?_ (by assumption))
  all_goals (intro a k q; have q2 := hP a k q; clear hP q; obtain ⟨q0_, q1_, q2_⟩ := q2)
  all_goals ((repeat' apply And.intro) <;> first | exact trivial | assumption | exact fun e => absurd e.1 (by assumption))

theorem fr_X10_goesIn_75 {P : Nat → Nat → Prop} {σ0 σ : mm_S} {k7 : (Int32) → mm_S → Option (mm_S)} {a0 : Nat} {i1 : Int32} {i2 : Int32} {s0 : Nat} {s1 : Int32} {s2 : Int32} (hP : ∀ a k, P a k → a ≠ s0 ∧ a ≠ 226 ∧ a ≠ 227) (hk0 : ∀ v τ, ko_K P σ0 τ → ko id P σ0 (k7 v τ)) (h : ko_K P σ0 σ) : ko id P σ0 (f_X10_goesIn_75 k7 a0 i1 i2 s0 s1 s2 σ) := by
  unfold f_X10_goesIn_75
  repeat' with_reducible first
    | assumption
    | refine ko_someV ?_
    | refine ko_someR ?_
    | refine ko_ite ?_ ?_
    | refine ko_gd (fun _ => ?_)
    | refine ko_gz ?_
    | refine ko_gb ?_
    | refine ko_gq ?_
    | refine ko_gl ?_
    | refine ko_lts ?_ (fun _ _ => ?_)
    | refine ko_ltx (fun _ => ?_)
    | refine ko_bd ?_ (fun _ _ _ => ?_)
    | refine ko_bv ?_ (fun _ _ => ?_)
    | refine ko_sui (by assumption) ?_
    | refine ko_suj (by assumption) ?_
    | refine ko_suc (by assumption) ?_
    | refine ko_suw (by assumption) ?_
    | refine ko_none
    | (apply hk0; assumption)
    | (refine fr_X10_soughtBy ?_ (by assumption))
  all_goals (intro a k q; have q2 := hP a k q; clear hP q; obtain ⟨q0_, q1_, q2_⟩ := q2)
  all_goals ((repeat' apply And.intro) <;> first | exact trivial | assumption | exact fun e => absurd e.1 (by assumption))

theorem fr_X10_goesIn_53 {P : Nat → Nat → Prop} {σ0 σ : mm_S} {k7 : (Int32) → mm_S → Option (mm_S)} {a0 : Nat} {i1 : Int32} {i2 : Int32} {s0 : Int32} (hP : ∀ a k, P a k → a ≠ 224 ∧ a ≠ 226 ∧ a ≠ 227) (hk0 : ∀ v τ, ko_K P σ0 τ → ko id P σ0 (k7 v τ)) (h : ko_K P σ0 σ) : ko id P σ0 (f_X10_goesIn_53 k7 a0 i1 i2 s0 σ) := by
  unfold f_X10_goesIn_53
  repeat' with_reducible first
    | assumption
    | refine ko_someV ?_
    | refine ko_someR ?_
    | refine ko_ite ?_ ?_
    | refine ko_gd (fun _ => ?_)
    | refine ko_gz ?_
    | refine ko_gb ?_
    | refine ko_gq ?_
    | refine ko_gl ?_
    | refine ko_lts ?_ (fun _ _ => ?_)
    | refine ko_ltx (fun _ => ?_)
    | refine ko_bd ?_ (fun _ _ _ => ?_)
    | refine ko_bv ?_ (fun _ _ => ?_)
    | refine ko_sui (by assumption) ?_
    | refine ko_suj (by assumption) ?_
    | refine ko_suc (by assumption) ?_
    | refine ko_suw (by assumption) ?_
    | refine ko_none
    | (apply hk0; assumption)
    | (refine fr_X10_goesIn_75 ?_ (by first | exact hk0) (by assumption))
  all_goals (intro a k q; have q2 := hP a k q; clear hP q; obtain ⟨q0_, q1_, q2_⟩ := q2)
  all_goals ((repeat' apply And.intro) <;> first | exact trivial | assumption | exact fun e => absurd e.1 (by assumption))

theorem fr_X10_goesIn_33 {P : Nat → Nat → Prop} {σ0 σ : mm_S} {k7 : (Int32) → mm_S → Option (mm_S)} {a0 : Nat} {i1 : Int32} {i2 : Int32} (hP : ∀ a k, P a k → a ≠ 224 ∧ a ≠ 226 ∧ a ≠ 227) (hk0 : ∀ v τ, ko_K P σ0 τ → ko id P σ0 (k7 v τ)) (h : ko_K P σ0 σ) : ko id P σ0 (f_X10_goesIn_33 k7 a0 i1 i2 σ) := by
  unfold f_X10_goesIn_33
  repeat' with_reducible first
    | assumption
    | refine ko_someV ?_
    | refine ko_someR ?_
    | refine ko_ite ?_ ?_
    | refine ko_gd (fun _ => ?_)
    | refine ko_gz ?_
    | refine ko_gb ?_
    | refine ko_gq ?_
    | refine ko_gl ?_
    | refine ko_lts ?_ (fun _ _ => ?_)
    | refine ko_ltx (fun _ => ?_)
    | refine ko_bd ?_ (fun _ _ _ => ?_)
    | refine ko_bv ?_ (fun _ _ => ?_)
    | refine ko_sui (by assumption) ?_
    | refine ko_suj (by assumption) ?_
    | refine ko_suc (by assumption) ?_
    | refine ko_suw (by assumption) ?_
    | refine ko_none
    | (apply hk0; assumption)
    | (refine fr_X10_goesIn_53 ?_ (by first | exact hk0) (by assumption))
    | (refine fr_X10_isCounted ?_ (by assumption))
  all_goals (intro a k q; have q2 := hP a k q; clear hP q; obtain ⟨q0_, q1_, q2_⟩ := q2)
  all_goals ((repeat' apply And.intro) <;> first | exact trivial | assumption | exact fun e => absurd e.1 (by assumption))

theorem fr_X10_goesIn_7 {P : Nat → Nat → Prop} {σ0 σ : mm_S} {a0 : Nat} {i1 : Int32} {i2 : Int32} (hP : ∀ a k, P a k → a ≠ 224 ∧ a ≠ 226 ∧ a ≠ 227) (h : ko_K P σ0 σ) : ko id P σ0 (f_X10_goesIn_7 a0 i1 i2 σ) := by
  unfold f_X10_goesIn_7
  refine ko_lp (fun rec hrec v τ hτ => ?_) lpN _ _ h
  repeat' with_reducible first
    | assumption
    | refine ko_someV ?_
    | refine ko_someR ?_
    | refine ko_ite ?_ ?_
    | refine ko_gd (fun _ => ?_)
    | refine ko_gz ?_
    | refine ko_gb ?_
    | refine ko_gq ?_
    | refine ko_gl ?_
    | refine ko_lts ?_ (fun _ _ => ?_)
    | refine ko_ltx (fun _ => ?_)
    | refine ko_bd ?_ (fun _ _ _ => ?_)
    | refine ko_bv ?_ (fun _ _ => ?_)
    | refine ko_sui (by assumption) ?_
    | refine ko_suj (by assumption) ?_
    | refine ko_suc (by assumption) ?_
    | refine ko_suw (by assumption) ?_
    | refine ko_none
    | (apply hrec; assumption)
    | (refine fr_X10_isOf ?_ (by assumption))
    | (refine fr_X10_goesIn_33 ?_ (by first | exact hrec) (by assumption))
    | (refine fr_X10_goesIn_53 ?_ (by first | exact hrec) (by assumption))
  all_goals (intro a k q; have q2 := hP a k q; clear hP q; obtain ⟨q0_, q1_, q2_⟩ := q2)
  all_goals ((repeat' apply And.intro) <;> first | exact trivial | assumption | exact fun e => absurd e.1 (by assumption))

theorem fr_X10_goesIn {P : Nat → Nat → Prop} {σ0 σ : mm_S} {a0 : Nat} (hP : ∀ a k, P a k → a ≠ 224 ∧ a ≠ 226 ∧ a ≠ 227) (h : ko_K P σ0 σ) : ko id P σ0 (f_X10_goesIn a0 σ) := by
  unfold f_X10_goesIn
  repeat' with_reducible first
    | assumption
    | refine ko_someV ?_
    | refine ko_someR ?_
    | refine ko_ite ?_ ?_
    | refine ko_gd (fun _ => ?_)
    | refine ko_gz ?_
    | refine ko_gb ?_
    | refine ko_gq ?_
    | refine ko_gl ?_
    | refine ko_lts ?_ (fun _ _ => ?_)
    | refine ko_ltx (fun _ => ?_)
    | refine ko_bd ?_ (fun _ _ _ => ?_)
    | refine ko_bv ?_ (fun _ _ => ?_)
    | refine ko_sui (by assumption) ?_
    | refine ko_suj (by assumption) ?_
    | refine ko_suc (by assumption) ?_
    | refine ko_suw (by assumption) ?_
    | refine ko_none
    | (refine fr_X10_soughtOnes ?_ (by assumption))
    | (refine fr_X10_goesIn_7 ?_ (by assumption))
  all_goals (intro a k q; have q2 := hP a k q; clear hP q; obtain ⟨q0_, q1_, q2_⟩ := q2)
  all_goals ((repeat' apply And.intro) <;> first | exact trivial | assumption | exact fun e => absurd e.1 (by assumption))

theorem fr_X10_seeks_76 {P : Nat → Nat → Prop} {σ0 σ : mm_S} {k12 : (Int32) → mm_S → Option (mm_S)} {a0 : Nat} {i1 : Int32} {i2 : Int32} {i3 : Int32} (hP : ∀ a k, P a k → a ≠ 224 ∧ a ≠ 227 ∧ ¬ (a = a0 ∧ k = 28)) (hk0 : ∀ v τ, ko_K P σ0 τ → ko id P σ0 (k12 v τ)) (h : ko_K P σ0 σ) : ko id P σ0 (f_X10_seeks_76 k12 a0 i1 i2 i3 σ) := by
  unfold f_X10_seeks_76
  repeat' with_reducible first
    | assumption
    | refine ko_someV ?_
    | refine ko_someR ?_
    | refine ko_ite ?_ ?_
    | refine ko_gd (fun _ => ?_)
    | refine ko_gz ?_
    | refine ko_gb ?_
    | refine ko_gq ?_
    | refine ko_gl ?_
    | refine ko_lts ?_ (fun _ _ => ?_)
    | refine ko_ltx (fun _ => ?_)
    | refine ko_bd ?_ (fun _ _ _ => ?_)
    | refine ko_bv ?_ (fun _ _ => ?_)
    | refine ko_sui (by assumption) ?_
    | refine ko_suj (by assumption) ?_
    | refine ko_suc (by assumption) ?_
    | refine ko_suw (by assumption) ?_
    | refine ko_none
    | (apply hk0; assumption)
  all_goals (intro a k q; have q2 := hP a k q; clear hP q; obtain ⟨q0_, q1_, q2_⟩ := q2)
  all_goals ((repeat' apply And.intro) <;> first | exact trivial | assumption | exact fun e => absurd e.1 (by assumption))

theorem fr_X10_seeks_55 {P : Nat → Nat → Prop} {σ0 σ : mm_S} {k12 : (Int32) → mm_S → Option (mm_S)} {a0 : Nat} {i1 : Int32} {i2 : Int32} {i3 : Int32} (hP : ∀ a k, P a k → a ≠ 224 ∧ a ≠ 227 ∧ ¬ (a = a0 ∧ k = 28) ∧ a ≠ 223 ∧ ¬ (a = a0 ∧ k = 18) ∧ a ≠ 222) (hk0 : ∀ v τ, ko_K P σ0 τ → ko id P σ0 (k12 v τ)) (h : ko_K P σ0 σ) : ko id P σ0 (f_X10_seeks_55 k12 a0 i1 i2 i3 σ) := by
  unfold f_X10_seeks_55
  repeat' with_reducible first
    | assumption
    | refine ko_someV ?_
    | refine ko_someR ?_
    | refine ko_ite ?_ ?_
    | refine ko_gd (fun _ => ?_)
    | refine ko_gz ?_
    | refine ko_gb ?_
    | refine ko_gq ?_
    | refine ko_gl ?_
    | refine ko_lts ?_ (fun _ _ => ?_)
    | refine ko_ltx (fun _ => ?_)
    | refine ko_bd ?_ (fun _ _ _ => ?_)
    | refine ko_bv ?_ (fun _ _ => ?_)
    | refine ko_sui (by assumption) ?_
    | refine ko_suj (by assumption) ?_
    | refine ko_suc (by assumption) ?_
    | refine ko_suw (by assumption) ?_
    | refine ko_none
    | (apply hk0; assumption)
    | (refine fr_X10_isIn ?_ (by assumption))
    | (refine fr_X10_seeks_76 ?_ (by first | exact hk0) (by assumption))
    | (refine fr_X10_choice ?_ (by assumption))
  all_goals (intro a k q; have q2 := hP a k q; clear hP q; obtain ⟨q0_, q1_, q2_, q3_, q4_, q5_⟩ := q2)
  all_goals ((repeat' apply And.intro) <;> first | exact trivial | assumption | exact fun e => absurd e.1 (by assumption))

theorem fr_X10_seeks_12 {P : Nat → Nat → Prop} {σ0 σ : mm_S} {a0 : Nat} {i1 : Int32} (hP : ∀ a k, P a k → a ≠ 224 ∧ a ≠ 227 ∧ ¬ (a = a0 ∧ k = 28) ∧ a ≠ 223 ∧ ¬ (a = a0 ∧ k = 18) ∧ a ≠ 222) (h : ko_K P σ0 σ) : ko id P σ0 (f_X10_seeks_12 a0 i1 σ) := by
  unfold f_X10_seeks_12
  refine ko_lp (fun rec hrec v τ hτ => ?_) lpN _ _ h
  repeat' with_reducible first
    | assumption
    | refine ko_someV ?_
    | refine ko_someR ?_
    | refine ko_ite ?_ ?_
    | refine ko_gd (fun _ => ?_)
    | refine ko_gz ?_
    | refine ko_gb ?_
    | refine ko_gq ?_
    | refine ko_gl ?_
    | refine ko_lts ?_ (fun _ _ => ?_)
    | refine ko_ltx (fun _ => ?_)
    | refine ko_bd ?_ (fun _ _ _ => ?_)
    | refine ko_bv ?_ (fun _ _ => ?_)
    | refine ko_sui (by assumption) ?_
    | refine ko_suj (by assumption) ?_
    | refine ko_suc (by assumption) ?_
    | refine ko_suw (by assumption) ?_
    | refine ko_none
    | (apply hrec; assumption)
    | (refine fr_X10_isOf ?_ (by assumption))
    | (refine fr_X10_isIn ?_ (by assumption))
    | (refine fr_X10_seeks_55 ?_ (by first | exact hrec) (by assumption))
    | (refine fr_X10_seeks_76 ?_ (by first | exact hrec) (by assumption))
  all_goals (intro a k q; have q2 := hP a k q; clear hP q; obtain ⟨q0_, q1_, q2_, q3_, q4_, q5_⟩ := q2)
  all_goals ((repeat' apply And.intro) <;> first | exact trivial | assumption | exact fun e => absurd e.1 (by assumption))

theorem fr_X10_seeks {P : Nat → Nat → Prop} {σ0 σ : mm_S} {a0 : Nat} (hP : ∀ a k, P a k → ¬ (a = a0 ∧ k = 28) ∧ a ≠ 224 ∧ a ≠ 227 ∧ a ≠ 223 ∧ ¬ (a = a0 ∧ k = 18) ∧ a ≠ 222) (h : ko_K P σ0 σ) : ko id P σ0 (f_X10_seeks a0 σ) := by
  unfold f_X10_seeks
  repeat' with_reducible first
    | assumption
    | refine ko_someV ?_
    | refine ko_someR ?_
    | refine ko_ite ?_ ?_
    | refine ko_gd (fun _ => ?_)
    | refine ko_gz ?_
    | refine ko_gb ?_
    | refine ko_gq ?_
    | refine ko_gl ?_
    | refine ko_lts ?_ (fun _ _ => ?_)
    | refine ko_ltx (fun _ => ?_)
    | refine ko_bd ?_ (fun _ _ _ => ?_)
    | refine ko_bv ?_ (fun _ _ => ?_)
    | refine ko_sui (by assumption) ?_
    | refine ko_suj (by assumption) ?_
    | refine ko_suc (by assumption) ?_
    | refine ko_suw (by assumption) ?_
    | refine ko_none
    | (refine fr_X10_seeks_12 ?_ (by assumption))
  all_goals (intro a k q; have q2 := hP a k q; clear hP q; obtain ⟨q0_, q1_, q2_, q3_, q4_, q5_⟩ := q2)
  all_goals ((repeat' apply And.intro) <;> first | exact trivial | assumption | exact fun e => absurd e.1 (by assumption))

theorem fr_X10_sleeps1_64 {P : Nat → Nat → Prop} {σ0 σ : mm_S} {k2 : (Int32) → mm_S → Option (mm_S)} {a0 : Nat} {i1 : Int32} {i2 : Int32} {s0 : Nat} {s1 : Int32} {s2 : Int32} (hP : ∀ a k, P a k → a ≠ s0 ∧ a ≠ 224) (hk0 : ∀ v τ, ko_K P σ0 τ → ko id P σ0 (k2 v τ)) (h : ko_K P σ0 σ) : ko id P σ0 (f_X10_sleeps1_64 k2 a0 i1 i2 s0 s1 s2 σ) := by
  unfold f_X10_sleeps1_64
  repeat' with_reducible first
    | assumption
    | refine ko_someV ?_
    | refine ko_someR ?_
    | refine ko_ite ?_ ?_
    | refine ko_gd (fun _ => ?_)
    | refine ko_gz ?_
    | refine ko_gb ?_
    | refine ko_gq ?_
    | refine ko_gl ?_
    | refine ko_lts ?_ (fun _ _ => ?_)
    | refine ko_ltx (fun _ => ?_)
    | refine ko_bd ?_ (fun _ _ _ => ?_)
    | refine ko_bv ?_ (fun _ _ => ?_)
    | refine ko_sui (by assumption) ?_
    | refine ko_suj (by assumption) ?_
    | refine ko_suc (by assumption) ?_
    | refine ko_suw (by assumption) ?_
    | refine ko_none
    | (apply hk0; assumption)
  all_goals (intro a k q; have q2 := hP a k q; clear hP q; obtain ⟨q0_, q1_⟩ := q2)
  all_goals ((repeat' apply And.intro) <;> first | exact trivial | assumption | exact fun e => absurd e.1 (by assumption))

theorem fr_X10_sleeps1_2 {P : Nat → Nat → Prop} {σ0 σ : mm_S} {a0 : Nat} {i1 : Int32} (hP : ∀ a k, P a k → a ≠ 224) (h : ko_K P σ0 σ) : ko id P σ0 (f_X10_sleeps1_2 a0 i1 σ) := by
  unfold f_X10_sleeps1_2
  refine ko_lp (fun rec hrec v τ hτ => ?_) lpN _ _ h
  repeat' with_reducible first
    | assumption
    | refine ko_someV ?_
    | refine ko_someR ?_
    | refine ko_ite ?_ ?_
    | refine ko_gd (fun _ => ?_)
    | refine ko_gz ?_
    | refine ko_gb ?_
    | refine ko_gq ?_
    | refine ko_gl ?_
    | refine ko_lts ?_ (fun _ _ => ?_)
    | refine ko_ltx (fun _ => ?_)
    | refine ko_bd ?_ (fun _ _ _ => ?_)
    | refine ko_bv ?_ (fun _ _ => ?_)
    | refine ko_sui (by assumption) ?_
    | refine ko_suj (by assumption) ?_
    | refine ko_suc (by assumption) ?_
    | refine ko_suw (by assumption) ?_
    | refine ko_none
    | (apply hrec; assumption)
    | (refine fr_X10_isIn ?_ (by assumption))
    | (refine fr_X10_sleeps1_64 ?_ (by first | exact hrec) (by assumption))
  all_goals (intro a k q; have q2 := hP a k q; clear hP q; have q0_ := q2; clear q2)
  all_goals ((repeat' apply And.intro) <;> first | exact trivial | assumption | exact fun e => absurd e.1 (by assumption))

theorem fr_X10_sleeps1 {P : Nat → Nat → Prop} {σ0 σ : mm_S} {a0 : Nat} (hP : ∀ a k, P a k → a ≠ 224) (h : ko_K P σ0 σ) : ko id P σ0 (f_X10_sleeps1 a0 σ) := by
  unfold f_X10_sleeps1
  repeat' with_reducible first
    | assumption
    | refine ko_someV ?_
    | refine ko_someR ?_
    | refine ko_ite ?_ ?_
    | refine ko_gd (fun _ => ?_)
    | refine ko_gz ?_
    | refine ko_gb ?_
    | refine ko_gq ?_
    | refine ko_gl ?_
    | refine ko_lts ?_ (fun _ _ => ?_)
    | refine ko_ltx (fun _ => ?_)
    | refine ko_bd ?_ (fun _ _ _ => ?_)
    | refine ko_bv ?_ (fun _ _ => ?_)
    | refine ko_sui (by assumption) ?_
    | refine ko_suj (by assumption) ?_
    | refine ko_suc (by assumption) ?_
    | refine ko_suw (by assumption) ?_
    | refine ko_none
    | (refine fr_X10_sleeps1_2 ?_ (by assumption))
  all_goals (intro a k q; have q2 := hP a k q; clear hP q; have q0_ := q2; clear q2)
  all_goals ((repeat' apply And.intro) <;> first | exact trivial | assumption | exact fun e => absurd e.1 (by assumption))

theorem fr_X10_pays_27 {P : Nat → Nat → Prop} {σ0 σ : mm_S} {a0 : Nat} {i1 : Int32} {i2 : Int32} (hP : ∀ a k, P a k → a ≠ 224) (h : ko_K P σ0 σ) : ko id P σ0 (f_X10_pays_27 a0 i1 i2 σ) := by
  unfold f_X10_pays_27
  repeat' with_reducible first
    | assumption
    | refine ko_someV ?_
    | refine ko_someR ?_
    | refine ko_ite ?_ ?_
    | refine ko_gd (fun _ => ?_)
    | refine ko_gz ?_
    | refine ko_gb ?_
    | refine ko_gq ?_
    | refine ko_gl ?_
    | refine ko_lts ?_ (fun _ _ => ?_)
    | refine ko_ltx (fun _ => ?_)
    | refine ko_bd ?_ (fun _ _ _ => ?_)
    | refine ko_bv ?_ (fun _ _ => ?_)
    | refine ko_sui (by assumption) ?_
    | refine ko_suj (by assumption) ?_
    | refine ko_suc (by assumption) ?_
    | refine ko_suw (by assumption) ?_
    | refine ko_none
    | (refine fr_X10_penceOf ?_ (by assumption))
  all_goals (intro a k q; have q2 := hP a k q; clear hP q; have q0_ := q2; clear q2)
  all_goals ((repeat' apply And.intro) <;> first | exact trivial | assumption | exact fun e => absurd e.1 (by assumption))

theorem fr_X10_pays_2 {P : Nat → Nat → Prop} {σ0 σ : mm_S} {a0 : Nat} {i1 : Int32} {i2 : Int32} (hP : ∀ a k, P a k → a ≠ 224) (h : ko_K P σ0 σ) : ko id P σ0 (f_X10_pays_2 a0 i1 i2 σ) := by
  unfold f_X10_pays_2
  refine ko_lp (fun rec hrec v τ hτ => ?_) lpN _ _ h
  repeat' with_reducible first
    | assumption
    | refine ko_someV ?_
    | refine ko_someR ?_
    | refine ko_ite ?_ ?_
    | refine ko_gd (fun _ => ?_)
    | refine ko_gz ?_
    | refine ko_gb ?_
    | refine ko_gq ?_
    | refine ko_gl ?_
    | refine ko_lts ?_ (fun _ _ => ?_)
    | refine ko_ltx (fun _ => ?_)
    | refine ko_bd ?_ (fun _ _ _ => ?_)
    | refine ko_bv ?_ (fun _ _ => ?_)
    | refine ko_sui (by assumption) ?_
    | refine ko_suj (by assumption) ?_
    | refine ko_suc (by assumption) ?_
    | refine ko_suw (by assumption) ?_
    | refine ko_none
    | (apply hrec; assumption)
    | (refine fr_X10_pays_27 ?_ (by assumption))
    | (refine fr_X10_soughtBy ?_ (by assumption))
  all_goals (intro a k q; have q2 := hP a k q; clear hP q; have q0_ := q2; clear q2)
  all_goals ((repeat' apply And.intro) <;> first | exact trivial | assumption | exact fun e => absurd e.1 (by assumption))

theorem fr_X10_pays {P : Nat → Nat → Prop} {σ0 σ : mm_S} {a0 : Nat} {i1 : Int32} (hP : ∀ a k, P a k → a ≠ 224) (h : ko_K P σ0 σ) : ko id P σ0 (f_X10_pays a0 i1 σ) := by
  unfold f_X10_pays
  repeat' with_reducible first
    | assumption
    | refine ko_someV ?_
    | refine ko_someR ?_
    | refine ko_ite ?_ ?_
    | refine ko_gd (fun _ => ?_)
    | refine ko_gz ?_
    | refine ko_gb ?_
    | refine ko_gq ?_
    | refine ko_gl ?_
    | refine ko_lts ?_ (fun _ _ => ?_)
    | refine ko_ltx (fun _ => ?_)
    | refine ko_bd ?_ (fun _ _ _ => ?_)
    | refine ko_bv ?_ (fun _ _ => ?_)
    | refine ko_sui (by assumption) ?_
    | refine ko_suj (by assumption) ?_
    | refine ko_suc (by assumption) ?_
    | refine ko_suw (by assumption) ?_
    | refine ko_none
    | (refine fr_X10_pays_2 ?_ (by assumption))
  all_goals (intro a k q; have q2 := hP a k q; clear hP q; have q0_ := q2; clear q2)
  all_goals ((repeat' apply And.intro) <;> first | exact trivial | assumption | exact fun e => absurd e.1 (by assumption))

theorem fr_X10_passes_14 {P : Nat → Nat → Prop} {σ0 σ : mm_S} {a0 : Nat} {i1 : Int32} (hP : ∀ a k, P a k → ¬ (a = a0 ∧ k = 24) ∧ a ≠ 224) (h : ko_K P σ0 σ) : ko Prod.snd P σ0 (f_X10_passes_14 a0 i1 σ) := by
  unfold f_X10_passes_14
  refine ko_lp (fun rec hrec v τ hτ => ?_) lpN _ _ h
  repeat' with_reducible first
    | assumption
    | refine ko_someV ?_
    | refine ko_someR ?_
    | refine ko_ite ?_ ?_
    | refine ko_gd (fun _ => ?_)
    | refine ko_gz ?_
    | refine ko_gb ?_
    | refine ko_gq ?_
    | refine ko_gl ?_
    | refine ko_lts ?_ (fun _ _ => ?_)
    | refine ko_ltx (fun _ => ?_)
    | refine ko_bd ?_ (fun _ _ _ => ?_)
    | refine ko_bv ?_ (fun _ _ => ?_)
    | refine ko_sui (by assumption) ?_
    | refine ko_suj (by assumption) ?_
    | refine ko_suc (by assumption) ?_
    | refine ko_suw (by assumption) ?_
    | refine ko_none
    | (apply hrec; assumption)
    | (refine fr_X10_inside ?_ (by assumption))
    | (refine fr_X10_isIn ?_ (by assumption))
    | (refine fr_X10_penceOf ?_ (by assumption))
    | (refine fr_X10_pays ?_ (by assumption))
  all_goals (intro a k q; have q2 := hP a k q; clear hP q; obtain ⟨q0_, q1_⟩ := q2)
  all_goals ((repeat' apply And.intro) <;> first | exact trivial | assumption | exact fun e => absurd e.1 (by assumption))

theorem fr_X10_passes {P : Nat → Nat → Prop} {σ0 σ : mm_S} {a0 : Nat} (hP : ∀ a k, P a k → a ≠ 224 ∧ a ≠ 226 ∧ a ≠ 227 ∧ ¬ (a = a0 ∧ k = 28) ∧ a ≠ 223 ∧ ¬ (a = a0 ∧ k = 18) ∧ a ≠ 222 ∧ ¬ (a = a0 ∧ k = 24)) (h : ko_K P σ0 σ) : ko Prod.snd P σ0 (f_X10_passes a0 σ) := by
  unfold f_X10_passes
  repeat' with_reducible first
    | assumption
    | refine ko_someV ?_
    | refine ko_someR ?_
    | refine ko_ite ?_ ?_
    | refine ko_gd (fun _ => ?_)
    | refine ko_gz ?_
    | refine ko_gb ?_
    | refine ko_gq ?_
    | refine ko_gl ?_
    | refine ko_lts ?_ (fun _ _ => ?_)
    | refine ko_ltx (fun _ => ?_)
    | refine ko_bd ?_ (fun _ _ _ => ?_)
    | refine ko_bv ?_ (fun _ _ => ?_)
    | refine ko_sui (by assumption) ?_
    | refine ko_suj (by assumption) ?_
    | refine ko_suc (by assumption) ?_
    | refine ko_suw (by assumption) ?_
    | refine ko_none
    | (refine fr_X10_goesIn ?_ (by assumption))
    | (refine fr_X10_seeks ?_ (by assumption))
    | (refine fr_X10_sleeps1 ?_ (by assumption))
    | (refine fr_X10_passes_14 ?_ (by assumption))
  all_goals (intro a k q; have q2 := hP a k q; clear hP q; obtain ⟨q0_, q1_, q2_, q3_, q4_, q5_, q6_, q7_⟩ := q2)
  all_goals ((repeat' apply And.intro) <;> first | exact trivial | assumption | exact fun e => absurd e.1 (by assumption))

theorem fr_X10_passesAll_2 {P : Nat → Nat → Prop} {σ0 σ : mm_S} {a0 : Nat} {i1 : Int32} {i2 : Int32} (hP : ∀ a k, P a k → a ≠ 224 ∧ a ≠ 226 ∧ a ≠ 227 ∧ ¬ (a = a0 ∧ k = 28) ∧ a ≠ 223 ∧ ¬ (a = a0 ∧ k = 18) ∧ a ≠ 222 ∧ ¬ (a = a0 ∧ k = 24)) (h : ko_K P σ0 σ) : ko id P σ0 (f_X10_passesAll_2 a0 i1 i2 σ) := by
  unfold f_X10_passesAll_2
  refine ko_lp (fun rec hrec v τ hτ => ?_) lpN _ _ h
  repeat' with_reducible first
    | assumption
    | refine ko_someV ?_
    | refine ko_someR ?_
    | refine ko_ite ?_ ?_
    | refine ko_gd (fun _ => ?_)
    | refine ko_gz ?_
    | refine ko_gb ?_
    | refine ko_gq ?_
    | refine ko_gl ?_
    | refine ko_lts ?_ (fun _ _ => ?_)
    | refine ko_ltx (fun _ => ?_)
    | refine ko_bd ?_ (fun _ _ _ => ?_)
    | refine ko_bv ?_ (fun _ _ => ?_)
    | refine ko_sui (by assumption) ?_
    | refine ko_suj (by assumption) ?_
    | refine ko_suc (by assumption) ?_
    | refine ko_suw (by assumption) ?_
    | refine ko_none
    | (apply hrec; assumption)
    | (refine fr_X10_passes ?_ (by assumption))
  all_goals (intro a k q; have q2 := hP a k q; clear hP q; obtain ⟨q0_, q1_, q2_, q3_, q4_, q5_, q6_, q7_⟩ := q2)
  all_goals ((repeat' apply And.intro) <;> first | exact trivial | assumption | exact fun e => absurd e.1 (by assumption))

theorem fr_X10_passesAll {P : Nat → Nat → Prop} {σ0 σ : mm_S} {a0 : Nat} {i1 : Int32} (hP : ∀ a k, P a k → a ≠ 224 ∧ a ≠ 226 ∧ a ≠ 227 ∧ ¬ (a = a0 ∧ k = 28) ∧ a ≠ 223 ∧ ¬ (a = a0 ∧ k = 18) ∧ a ≠ 222 ∧ ¬ (a = a0 ∧ k = 24)) (h : ko_K P σ0 σ) : ko id P σ0 (f_X10_passesAll a0 i1 σ) := by
  unfold f_X10_passesAll
  repeat' with_reducible first
    | assumption
    | refine ko_someV ?_
    | refine ko_someR ?_
    | refine ko_ite ?_ ?_
    | refine ko_gd (fun _ => ?_)
    | refine ko_gz ?_
    | refine ko_gb ?_
    | refine ko_gq ?_
    | refine ko_gl ?_
    | refine ko_lts ?_ (fun _ _ => ?_)
    | refine ko_ltx (fun _ => ?_)
    | refine ko_bd ?_ (fun _ _ _ => ?_)
    | refine ko_bv ?_ (fun _ _ => ?_)
    | refine ko_sui (by assumption) ?_
    | refine ko_suj (by assumption) ?_
    | refine ko_suc (by assumption) ?_
    | refine ko_suw (by assumption) ?_
    | refine ko_none
    | (refine fr_X10_passesAll_2 ?_ (by assumption))
  all_goals (intro a k q; have q2 := hP a k q; clear hP q; obtain ⟨q0_, q1_, q2_, q3_, q4_, q5_, q6_, q7_⟩ := q2)
  all_goals ((repeat' apply And.intro) <;> first | exact trivial | assumption | exact fun e => absurd e.1 (by assumption))

theorem fr_X10_keepsAct_52 {P : Nat → Nat → Prop} {σ0 σ : mm_S} {a0 : Nat} {i1 : Int32} (hP : ∀ a k, P a k → ¬ (a = a0 ∧ k = 31) ∧ a ≠ 228) (h : ko_K P σ0 σ) : ko id P σ0 (f_X10_keepsAct_52 a0 i1 σ) := by
  unfold f_X10_keepsAct_52
  refine ko_lp (fun rec hrec v τ hτ => ?_) lpN _ _ h
  repeat' with_reducible first
    | assumption
    | refine ko_someV ?_
    | refine ko_someR ?_
    | refine ko_ite ?_ ?_
    | refine ko_gd (fun _ => ?_)
    | refine ko_gz ?_
    | refine ko_gb ?_
    | refine ko_gq ?_
    | refine ko_gl ?_
    | refine ko_lts ?_ (fun _ _ => ?_)
    | refine ko_ltx (fun _ => ?_)
    | refine ko_bd ?_ (fun _ _ _ => ?_)
    | refine ko_bv ?_ (fun _ _ => ?_)
    | refine ko_sui (by assumption) ?_
    | refine ko_suj (by assumption) ?_
    | refine ko_suc (by assumption) ?_
    | refine ko_suw (by assumption) ?_
    | refine ko_none
    | (apply hrec; assumption)
  all_goals (intro a k q; have q2 := hP a k q; clear hP q; obtain ⟨q0_, q1_⟩ := q2)
  all_goals ((repeat' apply And.intro) <;> first | exact trivial | assumption | exact fun e => absurd e.1 (by assumption))

theorem fr_X10_keepsAct_12 {P : Nat → Nat → Prop} {σ0 σ : mm_S} {a0 : Nat} {i1 : Int32} (hP : ∀ a k, P a k → ¬ (a = a0 ∧ k = 31) ∧ a ≠ 228) (h : ko_K P σ0 σ) : ko id P σ0 (f_X10_keepsAct_12 a0 i1 σ) := by
  unfold f_X10_keepsAct_12
  refine ko_lp (fun rec hrec v τ hτ => ?_) lpN _ _ h
  repeat' with_reducible first
    | assumption
    | refine ko_someV ?_
    | refine ko_someR ?_
    | refine ko_ite ?_ ?_
    | refine ko_gd (fun _ => ?_)
    | refine ko_gz ?_
    | refine ko_gb ?_
    | refine ko_gq ?_
    | refine ko_gl ?_
    | refine ko_lts ?_ (fun _ _ => ?_)
    | refine ko_ltx (fun _ => ?_)
    | refine ko_bd ?_ (fun _ _ _ => ?_)
    | refine ko_bv ?_ (fun _ _ => ?_)
    | refine ko_sui (by assumption) ?_
    | refine ko_suj (by assumption) ?_
    | refine ko_suc (by assumption) ?_
    | refine ko_suw (by assumption) ?_
    | refine ko_none
    | (apply hrec; assumption)
    | (refine fr_X10_keepsAct_52 ?_ (by assumption))
  all_goals (intro a k q; have q2 := hP a k q; clear hP q; obtain ⟨q0_, q1_⟩ := q2)
  all_goals ((repeat' apply And.intro) <;> first | exact trivial | assumption | exact fun e => absurd e.1 (by assumption))

theorem fr_X10_keepsAct {P : Nat → Nat → Prop} {σ0 σ : mm_S} {a0 : Nat} (hP : ∀ a k, P a k → ¬ (a = a0 ∧ k = 31) ∧ a ≠ 228) (h : ko_K P σ0 σ) : ko id P σ0 (f_X10_keepsAct a0 σ) := by
  unfold f_X10_keepsAct
  repeat' with_reducible first
    | assumption
    | refine ko_someV ?_
    | refine ko_someR ?_
    | refine ko_ite ?_ ?_
    | refine ko_gd (fun _ => ?_)
    | refine ko_gz ?_
    | refine ko_gb ?_
    | refine ko_gq ?_
    | refine ko_gl ?_
    | refine ko_lts ?_ (fun _ _ => ?_)
    | refine ko_ltx (fun _ => ?_)
    | refine ko_bd ?_ (fun _ _ _ => ?_)
    | refine ko_bv ?_ (fun _ _ => ?_)
    | refine ko_sui (by assumption) ?_
    | refine ko_suj (by assumption) ?_
    | refine ko_suc (by assumption) ?_
    | refine ko_suw (by assumption) ?_
    | refine ko_none
    | (refine fr_X10_keepsAct_12 ?_ (by assumption))
    | (refine fr_X10_keepsAct_52 ?_ (by assumption))
  all_goals (intro a k q; have q2 := hP a k q; clear hP q; obtain ⟨q0_, q1_⟩ := q2)
  all_goals ((repeat' apply And.intro) <;> first | exact trivial | assumption | exact fun e => absurd e.1 (by assumption))

theorem fr_X10_undo_21 {P : Nat → Nat → Prop} {σ0 σ : mm_S} {a0 : Nat} {i1 : Int32} (hP : ∀ a k, P a k → a ≠ 224) (h : ko_K P σ0 σ) : ko Prod.snd P σ0 (f_X10_undo_21 a0 i1 σ) := by
  unfold f_X10_undo_21
  refine ko_lp (fun rec hrec v τ hτ => ?_) lpN _ _ h
  repeat' with_reducible first
    | assumption
    | refine ko_someV ?_
    | refine ko_someR ?_
    | refine ko_ite ?_ ?_
    | refine ko_gd (fun _ => ?_)
    | refine ko_gz ?_
    | refine ko_gb ?_
    | refine ko_gq ?_
    | refine ko_gl ?_
    | refine ko_lts ?_ (fun _ _ => ?_)
    | refine ko_ltx (fun _ => ?_)
    | refine ko_bd ?_ (fun _ _ _ => ?_)
    | refine ko_bv ?_ (fun _ _ => ?_)
    | refine ko_sui (by assumption) ?_
    | refine ko_suj (by assumption) ?_
    | refine ko_suc (by assumption) ?_
    | refine ko_suw (by assumption) ?_
    | refine ko_none
    | (apply hrec; assumption)
  all_goals (intro a k q; have q2 := hP a k q; clear hP q; have q0_ := q2; clear q2)
  all_goals ((repeat' apply And.intro) <;> first | exact trivial | assumption | exact fun e => absurd e.1 (by assumption))

theorem fr_X10_undo {P : Nat → Nat → Prop} {σ0 σ : mm_S} {a0 : Nat} (hP : ∀ a k, P a k → ¬ (a = a0 ∧ k = 31) ∧ a ≠ 224) (h : ko_K P σ0 σ) : ko Prod.snd P σ0 (f_X10_undo a0 σ) := by
  unfold f_X10_undo
  repeat' with_reducible first
    | assumption
    | refine ko_someV ?_
    | refine ko_someR ?_
    | refine ko_ite ?_ ?_
    | refine ko_gd (fun _ => ?_)
    | refine ko_gz ?_
    | refine ko_gb ?_
    | refine ko_gq ?_
    | refine ko_gl ?_
    | refine ko_lts ?_ (fun _ _ => ?_)
    | refine ko_ltx (fun _ => ?_)
    | refine ko_bd ?_ (fun _ _ _ => ?_)
    | refine ko_bv ?_ (fun _ _ => ?_)
    | refine ko_sui (by assumption) ?_
    | refine ko_suj (by assumption) ?_
    | refine ko_suc (by assumption) ?_
    | refine ko_suw (by assumption) ?_
    | refine ko_none
    | (refine fr_X10_undo_21 ?_ (by assumption))
  all_goals (intro a k q; have q2 := hP a k q; clear hP q; obtain ⟨q0_, q1_⟩ := q2)
  all_goals ((repeat' apply And.intro) <;> first | exact trivial | assumption | exact fun e => absurd e.1 (by assumption))

theorem fr_X10_hour {P : Nat → Nat → Prop} {σ0 σ : mm_S} {a0 : Nat} (hP : ∀ a k, P a k → ¬ (a = a0 ∧ k = 31) ∧ a ≠ 228 ∧ a ≠ 224 ∧ a ≠ 226 ∧ a ≠ 227 ∧ ¬ (a = a0 ∧ k = 28) ∧ a ≠ 223 ∧ ¬ (a = a0 ∧ k = 18) ∧ a ≠ 222 ∧ ¬ (a = a0 ∧ k = 24)) (h : ko_K P σ0 σ) : ko Prod.snd P σ0 (f_X10_hour a0 σ) := by
  unfold f_X10_hour
  repeat' with_reducible first
    | assumption
    | refine ko_someV ?_
    | refine ko_someR ?_
    | refine ko_ite ?_ ?_
    | refine ko_gd (fun _ => ?_)
    | refine ko_gz ?_
    | refine ko_gb ?_
    | refine ko_gq ?_
    | refine ko_gl ?_
    | refine ko_lts ?_ (fun _ _ => ?_)
    | refine ko_ltx (fun _ => ?_)
    | refine ko_bd ?_ (fun _ _ _ => ?_)
    | refine ko_bv ?_ (fun _ _ => ?_)
    | refine ko_sui (by assumption) ?_
    | refine ko_suj (by assumption) ?_
    | refine ko_suc (by assumption) ?_
    | refine ko_suw (by assumption) ?_
    | refine ko_none
    | (refine fr_X10_isHouse ?_ (by assumption))
    | (refine fr_X10_keepsAct ?_ (by assumption))
    | (refine fr_X10_passes ?_ (by assumption))
  all_goals (intro a k q; have q2 := hP a k q; clear hP q; obtain ⟨q0_, q1_, q2_, q3_, q4_, q5_, q6_, q7_, q8_, q9_⟩ := q2)
  all_goals ((repeat' apply And.intro) <;> first | exact trivial | assumption | exact fun e => absurd e.1 (by assumption))

theorem fr_X10_bid_22 {P : Nat → Nat → Prop} {σ0 σ : mm_S} {a0 : Nat} {i1 : Int32} {i2 : Int32} (hP : ∀ a k, P a k → a ≠ 224 ∧ ¬ (a = a0 ∧ k = 31) ∧ a ≠ 228) (h : ko_K P σ0 σ) : ko Prod.snd P σ0 (f_X10_bid_22 a0 i1 i2 σ) := by
  unfold f_X10_bid_22
  repeat' with_reducible first
    | assumption
    | refine ko_someV ?_
    | refine ko_someR ?_
    | refine ko_ite ?_ ?_
    | refine ko_gd (fun _ => ?_)
    | refine ko_gz ?_
    | refine ko_gb ?_
    | refine ko_gq ?_
    | refine ko_gl ?_
    | refine ko_lts ?_ (fun _ _ => ?_)
    | refine ko_ltx (fun _ => ?_)
    | refine ko_bd ?_ (fun _ _ _ => ?_)
    | refine ko_bv ?_ (fun _ _ => ?_)
    | refine ko_sui (by assumption) ?_
    | refine ko_suj (by assumption) ?_
    | refine ko_suc (by assumption) ?_
    | refine ko_suw (by assumption) ?_
    | refine ko_none
    | (refine fr_X10_isIn ?_ (by assumption))
    | (refine fr_X10_soughtBy ?_ (by assumption))
    | (refine fr_X10_keepsAct ?_ (by assumption))
  all_goals (intro a k q; have q2 := hP a k q; clear hP q; obtain ⟨q0_, q1_, q2_⟩ := q2)
  all_goals ((repeat' apply And.intro) <;> first | exact trivial | assumption | exact fun e => absurd e.1 (by assumption))

theorem fr_X10_bid {P : Nat → Nat → Prop} {σ0 σ : mm_S} {a0 : Nat} {i1 : Int32} {i2 : Int32} (hP : ∀ a k, P a k → a ≠ 224 ∧ ¬ (a = a0 ∧ k = 31) ∧ a ≠ 228) (h : ko_K P σ0 σ) : ko Prod.snd P σ0 (f_X10_bid a0 i1 i2 σ) := by
  unfold f_X10_bid
  repeat' with_reducible first
    | assumption
    | refine ko_someV ?_
    | refine ko_someR ?_
    | refine ko_ite ?_ ?_
    | refine ko_gd (fun _ => ?_)
    | refine ko_gz ?_
    | refine ko_gb ?_
    | refine ko_gq ?_
    | refine ko_gl ?_
    | refine ko_lts ?_ (fun _ _ => ?_)
    | refine ko_ltx (fun _ => ?_)
    | refine ko_bd ?_ (fun _ _ _ => ?_)
    | refine ko_bv ?_ (fun _ _ => ?_)
    | refine ko_sui (by assumption) ?_
    | refine ko_suj (by assumption) ?_
    | refine ko_suc (by assumption) ?_
    | refine ko_suw (by assumption) ?_
    | refine ko_none
    | (refine fr_X10_isLodger ?_ (by assumption))
    | (refine fr_X10_bid_22 ?_ (by assumption))
    | (refine fr_X10_areTwo ?_ (by assumption))
  all_goals (intro a k q; have q2 := hP a k q; clear hP q; obtain ⟨q0_, q1_, q2_⟩ := q2)
  all_goals ((repeat' apply And.intro) <;> first | exact trivial | assumption | exact fun e => absurd e.1 (by assumption))

theorem fr_X10_call {P : Nat → Nat → Prop} {σ0 σ : mm_S} {a0 : Nat} {i1 : Int32} (hP : ∀ a k, P a k → a ≠ 224 ∧ ¬ (a = a0 ∧ k = 31) ∧ a ≠ 228) (h : ko_K P σ0 σ) : ko Prod.snd P σ0 (f_X10_call a0 i1 σ) := by
  unfold f_X10_call
  repeat' with_reducible first
    | assumption
    | refine ko_someV ?_
    | refine ko_someR ?_
    | refine ko_ite ?_ ?_
    | refine ko_gd (fun _ => ?_)
    | refine ko_gz ?_
    | refine ko_gb ?_
    | refine ko_gq ?_
    | refine ko_gl ?_
    | refine ko_lts ?_ (fun _ _ => ?_)
    | refine ko_ltx (fun _ => ?_)
    | refine ko_bd ?_ (fun _ _ _ => ?_)
    | refine ko_bv ?_ (fun _ _ => ?_)
    | refine ko_sui (by assumption) ?_
    | refine ko_suj (by assumption) ?_
    | refine ko_suc (by assumption) ?_
    | refine ko_suw (by assumption) ?_
    | refine ko_none
    | (refine fr_X10_isLodger ?_ (by assumption))
    | (refine fr_X10_isIn ?_ (by assumption))
    | (refine fr_X10_keepsAct ?_ (by assumption))
    | (refine fr_X10_inside ?_ (by assumption))
  all_goals (intro a k q; have q2 := hP a k q; clear hP q; obtain ⟨q0_, q1_, q2_⟩ := q2)
  all_goals ((repeat' apply And.intro) <;> first | exact trivial | assumption | exact fun e => absurd e.1 (by assumption))

theorem fr_X10_pay {P : Nat → Nat → Prop} {σ0 σ : mm_S} {a0 : Nat} {i1 : Int32} {i2 : Int32} {i3 : Int32} (hP : ∀ a k, P a k → a ≠ 224 ∧ ¬ (a = a0 ∧ k = 31) ∧ a ≠ 228) (h : ko_K P σ0 σ) : ko Prod.snd P σ0 (f_X10_pay a0 i1 i2 i3 σ) := by
  unfold f_X10_pay
  repeat' with_reducible first
    | assumption
    | refine ko_someV ?_
    | refine ko_someR ?_
    | refine ko_ite ?_ ?_
    | refine ko_gd (fun _ => ?_)
    | refine ko_gz ?_
    | refine ko_gb ?_
    | refine ko_gq ?_
    | refine ko_gl ?_
    | refine ko_lts ?_ (fun _ _ => ?_)
    | refine ko_ltx (fun _ => ?_)
    | refine ko_bd ?_ (fun _ _ _ => ?_)
    | refine ko_bv ?_ (fun _ _ => ?_)
    | refine ko_sui (by assumption) ?_
    | refine ko_suj (by assumption) ?_
    | refine ko_suc (by assumption) ?_
    | refine ko_suw (by assumption) ?_
    | refine ko_none
    | (refine fr_X10_areTwo ?_ (by assumption))
    | (refine fr_X10_in ?_ (by assumption))
    | (refine fr_X10_penceOf ?_ (by assumption))
    | (refine fr_X10_keepsAct ?_ (by assumption))
  all_goals (intro a k q; have q2 := hP a k q; clear hP q; obtain ⟨q0_, q1_, q2_⟩ := q2)
  all_goals ((repeat' apply And.intro) <;> first | exact trivial | assumption | exact fun e => absurd e.1 (by assumption))

theorem fr_X10_tire {P : Nat → Nat → Prop} {σ0 σ : mm_S} {a0 : Nat} {i1 : Int32} {i2 : Int32} (hP : ∀ a k, P a k → a ≠ 224 ∧ ¬ (a = a0 ∧ k = 31) ∧ a ≠ 228) (h : ko_K P σ0 σ) : ko Prod.snd P σ0 (f_X10_tire a0 i1 i2 σ) := by
  unfold f_X10_tire
  repeat' with_reducible first
    | assumption
    | refine ko_someV ?_
    | refine ko_someR ?_
    | refine ko_ite ?_ ?_
    | refine ko_gd (fun _ => ?_)
    | refine ko_gz ?_
    | refine ko_gb ?_
    | refine ko_gq ?_
    | refine ko_gl ?_
    | refine ko_lts ?_ (fun _ _ => ?_)
    | refine ko_ltx (fun _ => ?_)
    | refine ko_bd ?_ (fun _ _ _ => ?_)
    | refine ko_bv ?_ (fun _ _ => ?_)
    | refine ko_sui (by assumption) ?_
    | refine ko_suj (by assumption) ?_
    | refine ko_suc (by assumption) ?_
    | refine ko_suw (by assumption) ?_
    | refine ko_none
    | (refine fr_X10_isLodger ?_ (by assumption))
    | (refine fr_X10_in ?_ (by assumption))
    | (refine fr_X10_keepsAct ?_ (by assumption))
    | (refine fr_X10_tiredOf ?_ (by assumption))
  all_goals (intro a k q; have q2 := hP a k q; clear hP q; obtain ⟨q0_, q1_, q2_⟩ := q2)
  all_goals ((repeat' apply And.intro) <;> first | exact trivial | assumption | exact fun e => absurd e.1 (by assumption))

theorem fr_X10_keeps_2 {P : Nat → Nat → Prop} {σ0 σ : mm_S} {a0 : Nat} {i1 : Int32} (hP : ∀ a k, P a k → a ≠ 229) (h : ko_K P σ0 σ) : ko id P σ0 (f_X10_keeps_2 a0 i1 σ) := by
  unfold f_X10_keeps_2
  refine ko_lp (fun rec hrec v τ hτ => ?_) lpN _ _ h
  repeat' with_reducible first
    | assumption
    | refine ko_someV ?_
    | refine ko_someR ?_
    | refine ko_ite ?_ ?_
    | refine ko_gd (fun _ => ?_)
    | refine ko_gz ?_
    | refine ko_gb ?_
    | refine ko_gq ?_
    | refine ko_gl ?_
    | refine ko_lts ?_ (fun _ _ => ?_)
    | refine ko_ltx (fun _ => ?_)
    | refine ko_bd ?_ (fun _ _ _ => ?_)
    | refine ko_bv ?_ (fun _ _ => ?_)
    | refine ko_sui (by assumption) ?_
    | refine ko_suj (by assumption) ?_
    | refine ko_suc (by assumption) ?_
    | refine ko_suw (by assumption) ?_
    | refine ko_none
    | (apply hrec; assumption)
  all_goals (intro a k q; have q2 := hP a k q; clear hP q; have q0_ := q2; clear q2)
  all_goals ((repeat' apply And.intro) <;> first | exact trivial | assumption | exact fun e => absurd e.1 (by assumption))

theorem fr_X10_keeps {P : Nat → Nat → Prop} {σ0 σ : mm_S} {a0 : Nat} (hP : ∀ a k, P a k → a ≠ 229) (h : ko_K P σ0 σ) : ko id P σ0 (f_X10_keeps a0 σ) := by
  unfold f_X10_keeps
  repeat' with_reducible first
    | assumption
    | refine ko_someV ?_
    | refine ko_someR ?_
    | refine ko_ite ?_ ?_
    | refine ko_gd (fun _ => ?_)
    | refine ko_gz ?_
    | refine ko_gb ?_
    | refine ko_gq ?_
    | refine ko_gl ?_
    | refine ko_lts ?_ (fun _ _ => ?_)
    | refine ko_ltx (fun _ => ?_)
    | refine ko_bd ?_ (fun _ _ _ => ?_)
    | refine ko_bv ?_ (fun _ _ => ?_)
    | refine ko_sui (by assumption) ?_
    | refine ko_suj (by assumption) ?_
    | refine ko_suc (by assumption) ?_
    | refine ko_suw (by assumption) ?_
    | refine ko_none
    | (refine fr_X10_keeps_2 ?_ (by assumption))
  all_goals (intro a k q; have q2 := hP a k q; clear hP q; have q0_ := q2; clear q2)
  all_goals ((repeat' apply And.intro) <;> first | exact trivial | assumption | exact fun e => absurd e.1 (by assumption))

theorem fr_X10_laysBack_2 {P : Nat → Nat → Prop} {σ0 σ : mm_S} {a0 : Nat} {i1 : Int32} (hP : ∀ a k, P a k → a ≠ 224) (h : ko_K P σ0 σ) : ko id P σ0 (f_X10_laysBack_2 a0 i1 σ) := by
  unfold f_X10_laysBack_2
  refine ko_lp (fun rec hrec v τ hτ => ?_) lpN _ _ h
  repeat' with_reducible first
    | assumption
    | refine ko_someV ?_
    | refine ko_someR ?_
    | refine ko_ite ?_ ?_
    | refine ko_gd (fun _ => ?_)
    | refine ko_gz ?_
    | refine ko_gb ?_
    | refine ko_gq ?_
    | refine ko_gl ?_
    | refine ko_lts ?_ (fun _ _ => ?_)
    | refine ko_ltx (fun _ => ?_)
    | refine ko_bd ?_ (fun _ _ _ => ?_)
    | refine ko_bv ?_ (fun _ _ => ?_)
    | refine ko_sui (by assumption) ?_
    | refine ko_suj (by assumption) ?_
    | refine ko_suc (by assumption) ?_
    | refine ko_suw (by assumption) ?_
    | refine ko_none
    | (apply hrec; assumption)
  all_goals (intro a k q; have q2 := hP a k q; clear hP q; have q0_ := q2; clear q2)
  all_goals ((repeat' apply And.intro) <;> first | exact trivial | assumption | exact fun e => absurd e.1 (by assumption))

theorem fr_X10_laysBack {P : Nat → Nat → Prop} {σ0 σ : mm_S} {a0 : Nat} (hP : ∀ a k, P a k → a ≠ 224) (h : ko_K P σ0 σ) : ko id P σ0 (f_X10_laysBack a0 σ) := by
  unfold f_X10_laysBack
  repeat' with_reducible first
    | assumption
    | refine ko_someV ?_
    | refine ko_someR ?_
    | refine ko_ite ?_ ?_
    | refine ko_gd (fun _ => ?_)
    | refine ko_gz ?_
    | refine ko_gb ?_
    | refine ko_gq ?_
    | refine ko_gl ?_
    | refine ko_lts ?_ (fun _ _ => ?_)
    | refine ko_ltx (fun _ => ?_)
    | refine ko_bd ?_ (fun _ _ _ => ?_)
    | refine ko_bv ?_ (fun _ _ => ?_)
    | refine ko_sui (by assumption) ?_
    | refine ko_suj (by assumption) ?_
    | refine ko_suc (by assumption) ?_
    | refine ko_suw (by assumption) ?_
    | refine ko_none
    | (refine fr_X10_laysBack_2 ?_ (by assumption))
  all_goals (intro a k q; have q2 := hP a k q; clear hP q; have q0_ := q2; clear q2)
  all_goals ((repeat' apply And.intro) <;> first | exact trivial | assumption | exact fun e => absurd e.1 (by assumption))

theorem fr_X10_ahead {P : Nat → Nat → Prop} {σ0 σ : mm_S} {a0 : Nat} {i1 : Int32} {i2 : Int32} {i3 : Int32} (hP : ∀ a k, P a k → a ≠ 229 ∧ a ≠ 224 ∧ a ≠ 226 ∧ a ≠ 227 ∧ ¬ (a = a0 ∧ k = 28) ∧ a ≠ 223 ∧ ¬ (a = a0 ∧ k = 18) ∧ a ≠ 222 ∧ ¬ (a = a0 ∧ k = 24)) (h : ko_K P σ0 σ) : ko Prod.snd P σ0 (f_X10_ahead a0 i1 i2 i3 σ) := by
  unfold f_X10_ahead
  repeat' with_reducible first
    | assumption
    | refine ko_someV ?_
    | refine ko_someR ?_
    | refine ko_ite ?_ ?_
    | refine ko_gd (fun _ => ?_)
    | refine ko_gz ?_
    | refine ko_gb ?_
    | refine ko_gq ?_
    | refine ko_gl ?_
    | refine ko_lts ?_ (fun _ _ => ?_)
    | refine ko_ltx (fun _ => ?_)
    | refine ko_bd ?_ (fun _ _ _ => ?_)
    | refine ko_bv ?_ (fun _ _ => ?_)
    | refine ko_sui (by assumption) ?_
    | refine ko_suj (by assumption) ?_
    | refine ko_suc (by assumption) ?_
    | refine ko_suw (by assumption) ?_
    | refine ko_none
    | (refine fr_X10_isLodger ?_ (by assumption))
    | (refine fr_X10_in ?_ (by assumption))
    | (refine fr_X10_keeps ?_ (by assumption))
    | (refine fr_X10_passesAll ?_ (by assumption))
    | (refine fr_X10_tiredOf ?_ (by assumption))
    | (refine fr_X10_laysBack ?_ (by assumption))
    | (refine fr_X10_penceOf ?_ (by assumption))
    | (refine fr_X10_sleptBy ?_ (by assumption))
  all_goals (intro a k q; have q2 := hP a k q; clear hP q; obtain ⟨q0_, q1_, q2_, q3_, q4_, q5_, q6_, q7_, q8_⟩ := q2)
  all_goals ((repeat' apply And.intro) <;> first | exact trivial | assumption | exact fun e => absurd e.1 (by assumption))

theorem fr_X10_rested_46 {P : Nat → Nat → Prop} {σ0 σ : mm_S} {k19 : (Int32 × Int32) → mm_S → Option (Int32 × mm_S)} {a0 : Nat} {i1 : Int32} {i2 : Int32} {i3 : Int32} (hP : ∀ a k, P a k → a ≠ 224 ∧ a ≠ 226 ∧ a ≠ 227 ∧ ¬ (a = a0 ∧ k = 28) ∧ a ≠ 223 ∧ ¬ (a = a0 ∧ k = 18) ∧ a ≠ 222 ∧ ¬ (a = a0 ∧ k = 24)) (hk0 : ∀ v τ, ko_K P σ0 τ → ko Prod.snd P σ0 (k19 v τ)) (h : ko_K P σ0 σ) : ko Prod.snd P σ0 (f_X10_rested_46 k19 a0 i1 i2 i3 σ) := by
  unfold f_X10_rested_46
  repeat' with_reducible first
    | assumption
    | refine ko_someV ?_
    | refine ko_someR ?_
    | refine ko_ite ?_ ?_
    | refine ko_gd (fun _ => ?_)
    | refine ko_gz ?_
    | refine ko_gb ?_
    | refine ko_gq ?_
    | refine ko_gl ?_
    | refine ko_lts ?_ (fun _ _ => ?_)
    | refine ko_ltx (fun _ => ?_)
    | refine ko_bd ?_ (fun _ _ _ => ?_)
    | refine ko_bv ?_ (fun _ _ => ?_)
    | refine ko_sui (by assumption) ?_
    | refine ko_suj (by assumption) ?_
    | refine ko_suc (by assumption) ?_
    | refine ko_suw (by assumption) ?_
    | refine ko_none
    | (apply hk0; assumption)
    | (refine fr_X10_passes ?_ (by assumption))
  all_goals (intro a k q; have q2 := hP a k q; clear hP q; obtain ⟨q0_, q1_, q2_, q3_, q4_, q5_, q6_, q7_⟩ := q2)
  all_goals ((repeat' apply And.intro) <;> first | exact trivial | assumption | exact fun e => absurd e.1 (by assumption))

theorem fr_X10_rested_19 {P : Nat → Nat → Prop} {σ0 σ : mm_S} {a0 : Nat} {i1 : Int32} {i2 : Int32} {i3 : Int32} (hP : ∀ a k, P a k → a ≠ 224 ∧ a ≠ 226 ∧ a ≠ 227 ∧ ¬ (a = a0 ∧ k = 28) ∧ a ≠ 223 ∧ ¬ (a = a0 ∧ k = 18) ∧ a ≠ 222 ∧ ¬ (a = a0 ∧ k = 24)) (h : ko_K P σ0 σ) : ko Prod.snd P σ0 (f_X10_rested_19 a0 i1 i2 i3 σ) := by
  unfold f_X10_rested_19
  refine ko_lp (fun rec hrec v τ hτ => ?_) lpN _ _ h
  repeat' with_reducible first
    | assumption
    | refine ko_someV ?_
    | refine ko_someR ?_
    | refine ko_ite ?_ ?_
    | refine ko_gd (fun _ => ?_)
    | refine ko_gz ?_
    | refine ko_gb ?_
    | refine ko_gq ?_
    | refine ko_gl ?_
    | refine ko_lts ?_ (fun _ _ => ?_)
    | refine ko_ltx (fun _ => ?_)
    | refine ko_bd ?_ (fun _ _ _ => ?_)
    | refine ko_bv ?_ (fun _ _ => ?_)
    | refine ko_sui (by assumption) ?_
    | refine ko_suj (by assumption) ?_
    | refine ko_suc (by assumption) ?_
    | refine ko_suw (by assumption) ?_
    | refine ko_none
    | (apply hrec; assumption)
    | (refine fr_X10_laysBack ?_ (by assumption))
    | (refine fr_X10_tiredOf ?_ (by assumption))
    | (refine fr_X10_rested_46 ?_ (by first | exact hrec) (by assumption))
  all_goals (intro a k q; have q2 := hP a k q; clear hP q; obtain ⟨q0_, q1_, q2_, q3_, q4_, q5_, q6_, q7_⟩ := q2)
  all_goals ((repeat' apply And.intro) <;> first | exact trivial | assumption | exact fun e => absurd e.1 (by assumption))

theorem fr_X10_rested {P : Nat → Nat → Prop} {σ0 σ : mm_S} {a0 : Nat} {i1 : Int32} (hP : ∀ a k, P a k → a ≠ 229 ∧ a ≠ 224 ∧ a ≠ 226 ∧ a ≠ 227 ∧ ¬ (a = a0 ∧ k = 28) ∧ a ≠ 223 ∧ ¬ (a = a0 ∧ k = 18) ∧ a ≠ 222 ∧ ¬ (a = a0 ∧ k = 24)) (h : ko_K P σ0 σ) : ko Prod.snd P σ0 (f_X10_rested a0 i1 σ) := by
  unfold f_X10_rested
  repeat' with_reducible first
    | assumption
    | refine ko_someV ?_
    | refine ko_someR ?_
    | refine ko_ite ?_ ?_
    | refine ko_gd (fun _ => ?_)
    | refine ko_gz ?_
    | refine ko_gb ?_
    | refine ko_gq ?_
    | refine ko_gl ?_
    | refine ko_lts ?_ (fun _ _ => ?_)
    | refine ko_ltx (fun _ => ?_)
    | refine ko_bd ?_ (fun _ _ _ => ?_)
    | refine ko_bv ?_ (fun _ _ => ?_)
    | refine ko_sui (by assumption) ?_
    | refine ko_suj (by assumption) ?_
    | refine ko_suc (by assumption) ?_
    | refine ko_suw (by assumption) ?_
    | refine ko_none
    | (refine fr_X10_isLodger ?_ (by assumption))
    | (refine fr_X10_keeps ?_ (by assumption))
    | (refine fr_X10_rested_19 ?_ (by assumption))
  all_goals (intro a k q; have q2 := hP a k q; clear hP q; obtain ⟨q0_, q1_, q2_, q3_, q4_, q5_, q6_, q7_, q8_⟩ := q2)
  all_goals ((repeat' apply And.intro) <;> first | exact trivial | assumption | exact fun e => absurd e.1 (by assumption))

theorem fr_X10_chain_57 {P : Nat → Nat → Prop} {σ0 σ : mm_S} {i1 : Int32} {i2 : Int32} {i3 : Int32} {i4 : Int32} (hP : ∀ a k, P a k → True) (h : ko_K P σ0 σ) : ko Prod.snd P σ0 (f_X10_chain_57 i1 i2 i3 i4 σ) := by
  unfold f_X10_chain_57
  repeat' with_reducible first
    | assumption
    | refine ko_someV ?_
    | refine ko_someR ?_
    | refine ko_ite ?_ ?_
    | refine ko_gd (fun _ => ?_)
    | refine ko_gz ?_
    | refine ko_gb ?_
    | refine ko_gq ?_
    | refine ko_gl ?_
    | refine ko_lts ?_ (fun _ _ => ?_)
    | refine ko_ltx (fun _ => ?_)
    | refine ko_bd ?_ (fun _ _ _ => ?_)
    | refine ko_bv ?_ (fun _ _ => ?_)
    | refine ko_sui (by assumption) ?_
    | refine ko_suj (by assumption) ?_
    | refine ko_suc (by assumption) ?_
    | refine ko_suw (by assumption) ?_
    | refine ko_none
    | (refine fr_X10_bits ?_ (by assumption))
  all_goals (intro a k q; have q2 := hP a k q; clear hP q)
  all_goals ((repeat' apply And.intro) <;> first | exact trivial | assumption)

theorem fr_X10_chain_25 {P : Nat → Nat → Prop} {σ0 σ : mm_S} {a0 : Nat} {i1 : Int32} {i2 : Int32} {i3 : Int32} {i4 : Int32} (hP : ∀ a k, P a k → True) (h : ko_K P σ0 σ) : ko Prod.snd P σ0 (f_X10_chain_25 a0 i1 i2 i3 i4 σ) := by
  unfold f_X10_chain_25
  refine ko_lp (fun rec hrec v τ hτ => ?_) lpN _ _ h
  repeat' with_reducible first
    | assumption
    | refine ko_someV ?_
    | refine ko_someR ?_
    | refine ko_ite ?_ ?_
    | refine ko_gd (fun _ => ?_)
    | refine ko_gz ?_
    | refine ko_gb ?_
    | refine ko_gq ?_
    | refine ko_gl ?_
    | refine ko_lts ?_ (fun _ _ => ?_)
    | refine ko_ltx (fun _ => ?_)
    | refine ko_bd ?_ (fun _ _ _ => ?_)
    | refine ko_bv ?_ (fun _ _ => ?_)
    | refine ko_sui (by assumption) ?_
    | refine ko_suj (by assumption) ?_
    | refine ko_suc (by assumption) ?_
    | refine ko_suw (by assumption) ?_
    | refine ko_none
    | (apply hrec; assumption)
    | (refine fr_X10_chain_57 ?_ (by assumption))
    | (refine fr_X10_isOf ?_ (by assumption))
    | (refine fr_X10_soughtBy ?_ (by assumption))
  all_goals (intro a k q; have q2 := hP a k q; clear hP q)
  all_goals ((repeat' apply And.intro) <;> first | exact trivial | assumption)

theorem fr_X10_chain {P : Nat → Nat → Prop} {σ0 σ : mm_S} {a0 : Nat} {i1 : Int32} {i2 : Int32} (hP : ∀ a k, P a k → True) (h : ko_K P σ0 σ) : ko Prod.snd P σ0 (f_X10_chain a0 i1 i2 σ) := by
  unfold f_X10_chain
  repeat' with_reducible first
    | assumption
    | refine ko_someV ?_
    | refine ko_someR ?_
    | refine ko_ite ?_ ?_
    | refine ko_gd (fun _ => ?_)
    | refine ko_gz ?_
    | refine ko_gb ?_
    | refine ko_gq ?_
    | refine ko_gl ?_
    | refine ko_lts ?_ (fun _ _ => ?_)
    | refine ko_ltx (fun _ => ?_)
    | refine ko_bd ?_ (fun _ _ _ => ?_)
    | refine ko_bv ?_ (fun _ _ => ?_)
    | refine ko_sui (by assumption) ?_
    | refine ko_suj (by assumption) ?_
    | refine ko_suc (by assumption) ?_
    | refine ko_suw (by assumption) ?_
    | refine ko_none
    | (refine fr_X10_isLodger ?_ (by assumption))
    | (refine fr_X10_in ?_ (by assumption))
    | (refine fr_X10_chain_25 ?_ (by assumption))
  all_goals (intro a k q; have q2 := hP a k q; clear hP q)
  all_goals ((repeat' apply And.intro) <;> first | exact trivial | assumption)

theorem fr_X10_lonely {P : Nat → Nat → Prop} {σ0 σ : mm_S} {a0 : Nat} (hP : ∀ a k, P a k → True) (h : ko_K P σ0 σ) : ko Prod.snd P σ0 (f_X10_lonely a0 σ) := by
  unfold f_X10_lonely
  repeat' with_reducible first
    | assumption
    | refine ko_someV ?_
    | refine ko_someR ?_
    | refine ko_ite ?_ ?_
    | refine ko_gd (fun _ => ?_)
    | refine ko_gz ?_
    | refine ko_gb ?_
    | refine ko_gq ?_
    | refine ko_gl ?_
    | refine ko_lts ?_ (fun _ _ => ?_)
    | refine ko_ltx (fun _ => ?_)
    | refine ko_bd ?_ (fun _ _ _ => ?_)
    | refine ko_bv ?_ (fun _ _ => ?_)
    | refine ko_sui (by assumption) ?_
    | refine ko_suj (by assumption) ?_
    | refine ko_suc (by assumption) ?_
    | refine ko_suw (by assumption) ?_
    | refine ko_none
    | (refine fr_X10_isHouse ?_ (by assumption))
    | (refine fr_X10_soughtOnes ?_ (by assumption))
  all_goals (intro a k q; have q2 := hP a k q; clear hP q)
  all_goals ((repeat' apply And.intro) <;> first | exact trivial | assumption)

theorem fr_X10_weighsRow_106 {P : Nat → Nat → Prop} {σ0 σ : mm_S} {a0 : Nat} {i3 : Int32} (hP : ∀ a k, P a k → a ≠ 231) (h : ko_K P σ0 σ) : ko id P σ0 (f_X10_weighsRow_106 a0 i3 σ) := by
  unfold f_X10_weighsRow_106
  refine ko_lp (fun rec hrec v τ hτ => ?_) lpN _ _ h
  repeat' with_reducible first
    | assumption
    | refine ko_someV ?_
    | refine ko_someR ?_
    | refine ko_ite ?_ ?_
    | refine ko_gd (fun _ => ?_)
    | refine ko_gz ?_
    | refine ko_gb ?_
    | refine ko_gq ?_
    | refine ko_gl ?_
    | refine ko_lts ?_ (fun _ _ => ?_)
    | refine ko_ltx (fun _ => ?_)
    | refine ko_bd ?_ (fun _ _ _ => ?_)
    | refine ko_bv ?_ (fun _ _ => ?_)
    | refine ko_sui (by assumption) ?_
    | refine ko_suj (by assumption) ?_
    | refine ko_suc (by assumption) ?_
    | refine ko_suw (by assumption) ?_
    | refine ko_none
    | (apply hrec; assumption)
  all_goals (intro a k q; have q2 := hP a k q; clear hP q; have q0_ := q2; clear q2)
  all_goals ((repeat' apply And.intro) <;> first | exact trivial | assumption | exact fun e => absurd e.1 (by assumption))

theorem fr_X10_weighsRow_91 {P : Nat → Nat → Prop} {σ0 σ : mm_S} {a0 : Nat} {i1 : Int32} {i2 : Int32} (hP : ∀ a k, P a k → ¬ (a = a0 ∧ k = 35) ∧ ¬ (a = a0 ∧ k = 36) ∧ a ≠ 231) (h : ko_K P σ0 σ) : ko id P σ0 (f_X10_weighsRow_91 a0 i1 i2 σ) := by
  unfold f_X10_weighsRow_91
  repeat' with_reducible first
    | assumption
    | refine ko_someV ?_
    | refine ko_someR ?_
    | refine ko_ite ?_ ?_
    | refine ko_gd (fun _ => ?_)
    | refine ko_gz ?_
    | refine ko_gb ?_
    | refine ko_gq ?_
    | refine ko_gl ?_
    | refine ko_lts ?_ (fun _ _ => ?_)
    | refine ko_ltx (fun _ => ?_)
    | refine ko_bd ?_ (fun _ _ _ => ?_)
    | refine ko_bv ?_ (fun _ _ => ?_)
    | refine ko_sui (by assumption) ?_
    | refine ko_suj (by assumption) ?_
    | refine ko_suc (by assumption) ?_
    | refine ko_suw (by assumption) ?_
    | refine ko_none
    | (refine fr_X10_bits ?_ (by assumption))
    | (refine fr_X10_weighsRow_106 ?_ (by assumption))
  all_goals (intro a k q; have q2 := hP a k q; clear hP q; obtain ⟨q0_, q1_, q2_⟩ := q2)
  all_goals ((repeat' apply And.intro) <;> first | exact trivial | assumption | exact fun e => absurd e.1 (by assumption))

theorem fr_X10_weighsRow_6 {P : Nat → Nat → Prop} {σ0 σ : mm_S} {a0 : Nat} {i1 : Int32} {i2 : Int32} {i3 : Int32} (hP : ∀ a k, P a k → ¬ (a = a0 ∧ k = 35) ∧ ¬ (a = a0 ∧ k = 36) ∧ a ≠ 231) (h : ko_K P σ0 σ) : ko id P σ0 (f_X10_weighsRow_6 a0 i1 i2 i3 σ) := by
  unfold f_X10_weighsRow_6
  refine ko_lp (fun rec hrec v τ hτ => ?_) lpN _ _ h
  repeat' with_reducible first
    | assumption
    | refine ko_someV ?_
    | refine ko_someR ?_
    | refine ko_ite ?_ ?_
    | refine ko_gd (fun _ => ?_)
    | refine ko_gz ?_
    | refine ko_gb ?_
    | refine ko_gq ?_
    | refine ko_gl ?_
    | refine ko_lts ?_ (fun _ _ => ?_)
    | refine ko_ltx (fun _ => ?_)
    | refine ko_bd ?_ (fun _ _ _ => ?_)
    | refine ko_bv ?_ (fun _ _ => ?_)
    | refine ko_sui (by assumption) ?_
    | refine ko_suj (by assumption) ?_
    | refine ko_suc (by assumption) ?_
    | refine ko_suw (by assumption) ?_
    | refine ko_none
    | (apply hrec; assumption)
    | (refine fr_X10_bits ?_ (by assumption))
    | (refine fr_X10_weighsRow_91 ?_ (by assumption))
  all_goals (intro a k q; have q2 := hP a k q; clear hP q; obtain ⟨q0_, q1_, q2_⟩ := q2)
  all_goals ((repeat' apply And.intro) <;> first | exact trivial | assumption | exact fun e => absurd e.1 (by assumption))

theorem fr_X10_weighsRow {P : Nat → Nat → Prop} {σ0 σ : mm_S} {a0 : Nat} (hP : ∀ a k, P a k → ¬ (a = a0 ∧ k = 35) ∧ ¬ (a = a0 ∧ k = 36) ∧ a ≠ 231) (h : ko_K P σ0 σ) : ko id P σ0 (f_X10_weighsRow a0 σ) := by
  unfold f_X10_weighsRow
  repeat' with_reducible first
    | assumption
    | refine ko_someV ?_
    | refine ko_someR ?_
    | refine ko_ite ?_ ?_
    | refine ko_gd (fun _ => ?_)
    | refine ko_gz ?_
    | refine ko_gb ?_
    | refine ko_gq ?_
    | refine ko_gl ?_
    | refine ko_lts ?_ (fun _ _ => ?_)
    | refine ko_ltx (fun _ => ?_)
    | refine ko_bd ?_ (fun _ _ _ => ?_)
    | refine ko_bv ?_ (fun _ _ => ?_)
    | refine ko_sui (by assumption) ?_
    | refine ko_suj (by assumption) ?_
    | refine ko_suc (by assumption) ?_
    | refine ko_suw (by assumption) ?_
    | refine ko_none
    | (refine fr_X10_weighsRow_6 ?_ (by assumption))
  all_goals (intro a k q; have q2 := hP a k q; clear hP q; obtain ⟨q0_, q1_, q2_⟩ := q2)
  all_goals ((repeat' apply And.intro) <;> first | exact trivial | assumption | exact fun e => absurd e.1 (by assumption))

theorem fr_X10_findsRow_99 {P : Nat → Nat → Prop} {σ0 σ : mm_S} {k19 : (Int32) → mm_S → Option (mm_S)} {a0 : Nat} {i1 : Int32} {s0 : Int32} {s1 : Int32} (hP : ∀ a k, P a k → a ≠ 230) (hk0 : ∀ v τ, ko_K P σ0 τ → ko id P σ0 (k19 v τ)) (h : ko_K P σ0 σ) : ko id P σ0 (f_X10_findsRow_99 k19 a0 i1 s0 s1 σ) := by
  unfold f_X10_findsRow_99
  repeat' with_reducible first
    | assumption
    | refine ko_someV ?_
    | refine ko_someR ?_
    | refine ko_ite ?_ ?_
    | refine ko_gd (fun _ => ?_)
    | refine ko_gz ?_
    | refine ko_gb ?_
    | refine ko_gq ?_
    | refine ko_gl ?_
    | refine ko_lts ?_ (fun _ _ => ?_)
    | refine ko_ltx (fun _ => ?_)
    | refine ko_bd ?_ (fun _ _ _ => ?_)
    | refine ko_bv ?_ (fun _ _ => ?_)
    | refine ko_sui (by assumption) ?_
    | refine ko_suj (by assumption) ?_
    | refine ko_suc (by assumption) ?_
    | refine ko_suw (by assumption) ?_
    | refine ko_none
    | (apply hk0; assumption)
  all_goals (intro a k q; have q2 := hP a k q; clear hP q; have q0_ := q2; clear q2)
  all_goals ((repeat' apply And.intro) <;> first | exact trivial | assumption | exact fun e => absurd e.1 (by assumption))

theorem fr_X10_findsRow_75 {P : Nat → Nat → Prop} {σ0 σ : mm_S} {k19 : (Int32) → mm_S → Option (mm_S)} {a0 : Nat} {i1 : Int32} (hP : ∀ a k, P a k → a ≠ 230) (hk0 : ∀ v τ, ko_K P σ0 τ → ko id P σ0 (k19 v τ)) (h : ko_K P σ0 σ) : ko id P σ0 (f_X10_findsRow_75 k19 a0 i1 σ) := by
  unfold f_X10_findsRow_75
  repeat' with_reducible first
    | assumption
    | refine ko_someV ?_
    | refine ko_someR ?_
    | refine ko_ite ?_ ?_
    | refine ko_gd (fun _ => ?_)
    | refine ko_gz ?_
    | refine ko_gb ?_
    | refine ko_gq ?_
    | refine ko_gl ?_
    | refine ko_lts ?_ (fun _ _ => ?_)
    | refine ko_ltx (fun _ => ?_)
    | refine ko_bd ?_ (fun _ _ _ => ?_)
    | refine ko_bv ?_ (fun _ _ => ?_)
    | refine ko_sui (by assumption) ?_
    | refine ko_suj (by assumption) ?_
    | refine ko_suc (by assumption) ?_
    | refine ko_suw (by assumption) ?_
    | refine ko_none
    | (apply hk0; assumption)
    | (refine fr_X10_isIn ?_ (by assumption))
    | (refine fr_X10_findsRow_99 ?_ (by first | exact hk0) (by assumption))
  all_goals (intro a k q; have q2 := hP a k q; clear hP q; have q0_ := q2; clear q2)
  all_goals ((repeat' apply And.intro) <;> first | exact trivial | assumption | exact fun e => absurd e.1 (by assumption))

theorem fr_X10_findsRow_19 {P : Nat → Nat → Prop} {σ0 σ : mm_S} {a0 : Nat} {i1 : Int32} (hP : ∀ a k, P a k → a ≠ 230 ∧ ¬ (a = a0 ∧ k = 35) ∧ ¬ (a = a0 ∧ k = 36) ∧ a ≠ 231) (h : ko_K P σ0 σ) : ko id P σ0 (f_X10_findsRow_19 a0 i1 σ) := by
  unfold f_X10_findsRow_19
  refine ko_lp (fun rec hrec v τ hτ => ?_) lpN _ _ h
  repeat' with_reducible first
    | assumption
    | refine ko_someV ?_
    | refine ko_someR ?_
    | refine ko_ite ?_ ?_
    | refine ko_gd (fun _ => ?_)
    | refine ko_gz ?_
    | refine ko_gb ?_
    | refine ko_gq ?_
    | refine ko_gl ?_
    | refine ko_lts ?_ (fun _ _ => ?_)
    | refine ko_ltx (fun _ => ?_)
    | refine ko_bd ?_ (fun _ _ _ => ?_)
    | refine ko_bv ?_ (fun _ _ => ?_)
    | refine ko_sui (by assumption) ?_
    | refine ko_suj (by assumption) ?_
    | refine ko_suc (by assumption) ?_
    | refine ko_suw (by assumption) ?_
    | refine ko_none
    | (apply hrec; assumption)
    | (refine fr_X10_weighsRow ?_ (by assumption))
    | (refine fr_X10_findsRow_75 ?_ (by first | exact hrec) (by assumption))
  all_goals (intro a k q; have q2 := hP a k q; clear hP q; obtain ⟨q0_, q1_, q2_, q3_⟩ := q2)
  all_goals ((repeat' apply And.intro) <;> first | exact trivial | assumption | exact fun e => absurd e.1 (by assumption))

theorem fr_X10_findsRow {P : Nat → Nat → Prop} {σ0 σ : mm_S} {a0 : Nat} (hP : ∀ a k, P a k → ¬ (a = a0 ∧ k = 35) ∧ ¬ (a = a0 ∧ k = 36) ∧ a ≠ 230 ∧ a ≠ 231) (h : ko_K P σ0 σ) : ko id P σ0 (f_X10_findsRow a0 σ) := by
  unfold f_X10_findsRow
  repeat' with_reducible first
    | assumption
    | refine ko_someV ?_
    | refine ko_someR ?_
    | refine ko_ite ?_ ?_
    | refine ko_gd (fun _ => ?_)
    | refine ko_gz ?_
    | refine ko_gb ?_
    | refine ko_gq ?_
    | refine ko_gl ?_
    | refine ko_lts ?_ (fun _ _ => ?_)
    | refine ko_ltx (fun _ => ?_)
    | refine ko_bd ?_ (fun _ _ _ => ?_)
    | refine ko_bv ?_ (fun _ _ => ?_)
    | refine ko_sui (by assumption) ?_
    | refine ko_suj (by assumption) ?_
    | refine ko_suc (by assumption) ?_
    | refine ko_suw (by assumption) ?_
    | refine ko_none
    | (refine fr_X10_findsRow_19 ?_ (by assumption))
  all_goals (intro a k q; have q2 := hP a k q; clear hP q; obtain ⟨q0_, q1_, q2_, q3_⟩ := q2)
  all_goals ((repeat' apply And.intro) <;> first | exact trivial | assumption | exact fun e => absurd e.1 (by assumption))

theorem fr_X10_bestRow {P : Nat → Nat → Prop} {σ0 σ : mm_S} {a0 : Nat} {i1 : Int32} (hP : ∀ a k, P a k → ¬ (a = a0 ∧ k = 35) ∧ ¬ (a = a0 ∧ k = 36) ∧ a ≠ 230 ∧ a ≠ 231) (h : ko_K P σ0 σ) : ko Prod.snd P σ0 (f_X10_bestRow a0 i1 σ) := by
  unfold f_X10_bestRow
  repeat' with_reducible first
    | assumption
    | refine ko_someV ?_
    | refine ko_someR ?_
    | refine ko_ite ?_ ?_
    | refine ko_gd (fun _ => ?_)
    | refine ko_gz ?_
    | refine ko_gb ?_
    | refine ko_gq ?_
    | refine ko_gl ?_
    | refine ko_lts ?_ (fun _ _ => ?_)
    | refine ko_ltx (fun _ => ?_)
    | refine ko_bd ?_ (fun _ _ _ => ?_)
    | refine ko_bv ?_ (fun _ _ => ?_)
    | refine ko_sui (by assumption) ?_
    | refine ko_suj (by assumption) ?_
    | refine ko_suc (by assumption) ?_
    | refine ko_suw (by assumption) ?_
    | refine ko_none
    | (refine fr_X10_isHouse ?_ (by assumption))
    | (refine fr_X10_in ?_ (by assumption))
    | (refine fr_X10_findsRow ?_ (by assumption))
    | (refine fr_X10_isLodger ?_ (by assumption))
  all_goals (intro a k q; have q2 := hP a k q; clear hP q; obtain ⟨q0_, q1_, q2_, q3_⟩ := q2)
  all_goals ((repeat' apply And.intro) <;> first | exact trivial | assumption | exact fun e => absurd e.1 (by assumption))

theorem fr_X10_forOne_63 {P : Nat → Nat → Prop} {σ0 σ : mm_S} {a0 : Nat} {i1 : Int32} {i2 : Int32} {i3 : Int32} {i4 : Int32} {i5 : Int32} {i6 : Int32} {i7 : Int32} {i8 : Int32} (hP : ∀ a k, P a k → a ≠ 224 ∧ a ≠ 226 ∧ a ≠ 227 ∧ ¬ (a = a0 ∧ k = 28) ∧ a ≠ 223 ∧ ¬ (a = a0 ∧ k = 18) ∧ a ≠ 222 ∧ ¬ (a = a0 ∧ k = 24)) (h : ko_K P σ0 σ) : ko Prod.snd P σ0 (f_X10_forOne_63 a0 i1 i2 i3 i4 i5 i6 i7 i8 σ) := by
  unfold f_X10_forOne_63
  refine ko_lp (fun rec hrec v τ hτ => ?_) lpN _ _ h
  repeat' with_reducible first
    | assumption
    | refine ko_someV ?_
    | refine ko_someR ?_
    | refine ko_ite ?_ ?_
    | refine ko_gd (fun _ => ?_)
    | refine ko_gz ?_
    | refine ko_gb ?_
    | refine ko_gq ?_
    | refine ko_gl ?_
    | refine ko_lts ?_ (fun _ _ => ?_)
    | refine ko_ltx (fun _ => ?_)
    | refine ko_bd ?_ (fun _ _ _ => ?_)
    | refine ko_bv ?_ (fun _ _ => ?_)
    | refine ko_sui (by assumption) ?_
    | refine ko_suj (by assumption) ?_
    | refine ko_suc (by assumption) ?_
    | refine ko_suw (by assumption) ?_
    | refine ko_none
    | (apply hrec; assumption)
    | (refine fr_X10_passesAll ?_ (by assumption))
    | (refine fr_X10_sleptBy ?_ (by assumption))
    | (refine fr_X10_laysBack ?_ (by assumption))
  all_goals (intro a k q; have q2 := hP a k q; clear hP q; obtain ⟨q0_, q1_, q2_, q3_, q4_, q5_, q6_, q7_⟩ := q2)
  all_goals ((repeat' apply And.intro) <;> first | exact trivial | assumption | exact fun e => absurd e.1 (by assumption))

theorem fr_X10_forOne {P : Nat → Nat → Prop} {σ0 σ : mm_S} {a0 : Nat} {i1 : Int32} {i2 : Int32} {i3 : Int32} {i4 : Int32} (hP : ∀ a k, P a k → a ≠ 229 ∧ a ≠ 224 ∧ a ≠ 226 ∧ a ≠ 227 ∧ ¬ (a = a0 ∧ k = 28) ∧ a ≠ 223 ∧ ¬ (a = a0 ∧ k = 18) ∧ a ≠ 222 ∧ ¬ (a = a0 ∧ k = 24)) (h : ko_K P σ0 σ) : ko Prod.snd P σ0 (f_X10_forOne a0 i1 i2 i3 i4 σ) := by
  unfold f_X10_forOne
  repeat' with_reducible first
    | assumption
    | refine ko_someV ?_
    | refine ko_someR ?_
    | refine ko_ite ?_ ?_
    | refine ko_gd (fun _ => ?_)
    | refine ko_gz ?_
    | refine ko_gb ?_
    | refine ko_gq ?_
    | refine ko_gl ?_
    | refine ko_lts ?_ (fun _ _ => ?_)
    | refine ko_ltx (fun _ => ?_)
    | refine ko_bd ?_ (fun _ _ _ => ?_)
    | refine ko_bv ?_ (fun _ _ => ?_)
    | refine ko_sui (by assumption) ?_
    | refine ko_suj (by assumption) ?_
    | refine ko_suc (by assumption) ?_
    | refine ko_suw (by assumption) ?_
    | refine ko_none
    | (refine fr_X10_areTwo ?_ (by assumption))
    | (refine fr_X10_isIn ?_ (by assumption))
    | (refine fr_X10_in ?_ (by assumption))
    | (refine fr_X10_sleptBy ?_ (by assumption))
    | (refine fr_X10_keeps ?_ (by assumption))
    | (refine fr_X10_forOne_63 ?_ (by assumption))
  all_goals (intro a k q; have q2 := hP a k q; clear hP q; obtain ⟨q0_, q1_, q2_, q3_, q4_, q5_, q6_, q7_, q8_⟩ := q2)
  all_goals ((repeat' apply And.intro) <;> first | exact trivial | assumption | exact fun e => absurd e.1 (by assumption))

theorem fr_X10_isNobodyWeary_2 {P : Nat → Nat → Prop} {σ0 σ : mm_S} {a0 : Nat} {i1 : Int32} (hP : ∀ a k, P a k → True) (h : ko_K P σ0 σ) : ko Prod.snd P σ0 (f_X10_isNobodyWeary_2 a0 i1 σ) := by
  unfold f_X10_isNobodyWeary_2
  refine ko_lp (fun rec hrec v τ hτ => ?_) lpN _ _ h
  repeat' with_reducible first
    | assumption
    | refine ko_someV ?_
    | refine ko_someR ?_
    | refine ko_ite ?_ ?_
    | refine ko_gd (fun _ => ?_)
    | refine ko_gz ?_
    | refine ko_gb ?_
    | refine ko_gq ?_
    | refine ko_gl ?_
    | refine ko_lts ?_ (fun _ _ => ?_)
    | refine ko_ltx (fun _ => ?_)
    | refine ko_bd ?_ (fun _ _ _ => ?_)
    | refine ko_bv ?_ (fun _ _ => ?_)
    | refine ko_sui (by assumption) ?_
    | refine ko_suj (by assumption) ?_
    | refine ko_suc (by assumption) ?_
    | refine ko_suw (by assumption) ?_
    | refine ko_none
    | (apply hrec; assumption)
    | (refine fr_X10_tiredOf ?_ (by assumption))
  all_goals (intro a k q; have q2 := hP a k q; clear hP q)
  all_goals ((repeat' apply And.intro) <;> first | exact trivial | assumption)

theorem fr_X10_isNobodyWeary {P : Nat → Nat → Prop} {σ0 σ : mm_S} {a0 : Nat} (hP : ∀ a k, P a k → True) (h : ko_K P σ0 σ) : ko Prod.snd P σ0 (f_X10_isNobodyWeary a0 σ) := by
  unfold f_X10_isNobodyWeary
  repeat' with_reducible first
    | assumption
    | refine ko_someV ?_
    | refine ko_someR ?_
    | refine ko_ite ?_ ?_
    | refine ko_gd (fun _ => ?_)
    | refine ko_gz ?_
    | refine ko_gb ?_
    | refine ko_gq ?_
    | refine ko_gl ?_
    | refine ko_lts ?_ (fun _ _ => ?_)
    | refine ko_ltx (fun _ => ?_)
    | refine ko_bd ?_ (fun _ _ _ => ?_)
    | refine ko_bv ?_ (fun _ _ => ?_)
    | refine ko_sui (by assumption) ?_
    | refine ko_suj (by assumption) ?_
    | refine ko_suc (by assumption) ?_
    | refine ko_suw (by assumption) ?_
    | refine ko_none
    | (refine fr_X10_isNobodyWeary_2 ?_ (by assumption))
  all_goals (intro a k q; have q2 := hP a k q; clear hP q)
  all_goals ((repeat' apply And.intro) <;> first | exact trivial | assumption)

theorem fr_X10_torches_117 {P : Nat → Nat → Prop} {σ0 σ : mm_S} {a0 : Nat} {i2 : Int32} {i3 : Int32} (hP : ∀ a k, P a k → a ≠ 224) (h : ko_K P σ0 σ) : ko Prod.snd P σ0 (f_X10_torches_117 a0 i2 i3 σ) := by
  unfold f_X10_torches_117
  repeat' with_reducible first
    | assumption
    | refine ko_someV ?_
    | refine ko_someR ?_
    | refine ko_ite ?_ ?_
    | refine ko_gd (fun _ => ?_)
    | refine ko_gz ?_
    | refine ko_gb ?_
    | refine ko_gq ?_
    | refine ko_gl ?_
    | refine ko_lts ?_ (fun _ _ => ?_)
    | refine ko_ltx (fun _ => ?_)
    | refine ko_bd ?_ (fun _ _ _ => ?_)
    | refine ko_bv ?_ (fun _ _ => ?_)
    | refine ko_sui (by assumption) ?_
    | refine ko_suj (by assumption) ?_
    | refine ko_suc (by assumption) ?_
    | refine ko_suw (by assumption) ?_
    | refine ko_none
  all_goals (intro a k q; have q2 := hP a k q; clear hP q; have q0_ := q2; clear q2)
  all_goals ((repeat' apply And.intro) <;> first | exact trivial | assumption | exact fun e => absurd e.1 (by assumption))

theorem fr_X10_torches_63 {P : Nat → Nat → Prop} {σ0 σ : mm_S} {k38 : (Int32 × Int32) → mm_S → Option (Int32 × mm_S)} {a0 : Nat} {i1 : Int32} {i2 : Int32} {i3 : Int32} {i4 : Int32} {i5 : Int32} {i6 : Int32} (hP : ∀ a k, P a k → a ≠ 224 ∧ a ≠ 226 ∧ a ≠ 227 ∧ ¬ (a = a0 ∧ k = 28) ∧ a ≠ 223 ∧ ¬ (a = a0 ∧ k = 18) ∧ a ≠ 222 ∧ ¬ (a = a0 ∧ k = 24)) (hk0 : ∀ v τ, ko_K P σ0 τ → ko Prod.snd P σ0 (k38 v τ)) (h : ko_K P σ0 σ) : ko Prod.snd P σ0 (f_X10_torches_63 k38 a0 i1 i2 i3 i4 i5 i6 σ) := by
  unfold f_X10_torches_63
  refine ko_lp (fun rec hrec v τ hτ => ?_) lpN _ _ h
  repeat' with_reducible first
    | assumption
    | refine ko_someV ?_
    | refine ko_someR ?_
    | refine ko_ite ?_ ?_
    | refine ko_gd (fun _ => ?_)
    | refine ko_gz ?_
    | refine ko_gb ?_
    | refine ko_gq ?_
    | refine ko_gl ?_
    | refine ko_lts ?_ (fun _ _ => ?_)
    | refine ko_ltx (fun _ => ?_)
    | refine ko_bd ?_ (fun _ _ _ => ?_)
    | refine ko_bv ?_ (fun _ _ => ?_)
    | refine ko_sui (by assumption) ?_
    | refine ko_suj (by assumption) ?_
    | refine ko_suc (by assumption) ?_
    | refine ko_suw (by assumption) ?_
    | refine ko_none
    | (apply hk0; assumption)
    | (apply hrec; assumption)
    | (refine fr_X10_laysBack ?_ (by assumption))
    | (refine fr_X10_passes ?_ (by assumption))
    | (refine fr_X10_isNobodyWeary ?_ (by assumption))
  all_goals (intro a k q; have q2 := hP a k q; clear hP q; obtain ⟨q0_, q1_, q2_, q3_, q4_, q5_, q6_, q7_⟩ := q2)
  all_goals ((repeat' apply And.intro) <;> first | exact trivial | assumption | exact fun e => absurd e.1 (by assumption))

theorem fr_X10_torches_38 {P : Nat → Nat → Prop} {σ0 σ : mm_S} {a0 : Nat} {i1 : Int32} {i2 : Int32} {i3 : Int32} {i4 : Int32} (hP : ∀ a k, P a k → a ≠ 224 ∧ a ≠ 226 ∧ a ≠ 227 ∧ ¬ (a = a0 ∧ k = 28) ∧ a ≠ 223 ∧ ¬ (a = a0 ∧ k = 18) ∧ a ≠ 222 ∧ ¬ (a = a0 ∧ k = 24)) (h : ko_K P σ0 σ) : ko Prod.snd P σ0 (f_X10_torches_38 a0 i1 i2 i3 i4 σ) := by
  unfold f_X10_torches_38
  refine ko_lp (fun rec hrec v τ hτ => ?_) lpN _ _ h
  repeat' with_reducible first
    | assumption
    | refine ko_someV ?_
    | refine ko_someR ?_
    | refine ko_ite ?_ ?_
    | refine ko_gd (fun _ => ?_)
    | refine ko_gz ?_
    | refine ko_gb ?_
    | refine ko_gq ?_
    | refine ko_gl ?_
    | refine ko_lts ?_ (fun _ _ => ?_)
    | refine ko_ltx (fun _ => ?_)
    | refine ko_bd ?_ (fun _ _ _ => ?_)
    | refine ko_bv ?_ (fun _ _ => ?_)
    | refine ko_sui (by assumption) ?_
    | refine ko_suj (by assumption) ?_
    | refine ko_suc (by assumption) ?_
    | refine ko_suw (by assumption) ?_
    | refine ko_none
    | (apply hrec; assumption)
    | (refine fr_X10_torches_117 ?_ (by assumption))
    | (refine fr_X10_torches_63 ?_ (by first | exact hrec) (by assumption))
  all_goals (intro a k q; have q2 := hP a k q; clear hP q; obtain ⟨q0_, q1_, q2_, q3_, q4_, q5_, q6_, q7_⟩ := q2)
  all_goals ((repeat' apply And.intro) <;> first | exact trivial | assumption | exact fun e => absurd e.1 (by assumption))

theorem fr_X10_torches {P : Nat → Nat → Prop} {σ0 σ : mm_S} {a0 : Nat} {i1 : Int32} (hP : ∀ a k, P a k → a ≠ 229 ∧ a ≠ 224 ∧ a ≠ 226 ∧ a ≠ 227 ∧ ¬ (a = a0 ∧ k = 28) ∧ a ≠ 223 ∧ ¬ (a = a0 ∧ k = 18) ∧ a ≠ 222 ∧ ¬ (a = a0 ∧ k = 24)) (h : ko_K P σ0 σ) : ko Prod.snd P σ0 (f_X10_torches a0 i1 σ) := by
  unfold f_X10_torches
  repeat' with_reducible first
    | assumption
    | refine ko_someV ?_
    | refine ko_someR ?_
    | refine ko_ite ?_ ?_
    | refine ko_gd (fun _ => ?_)
    | refine ko_gz ?_
    | refine ko_gb ?_
    | refine ko_gq ?_
    | refine ko_gl ?_
    | refine ko_lts ?_ (fun _ _ => ?_)
    | refine ko_ltx (fun _ => ?_)
    | refine ko_bd ?_ (fun _ _ _ => ?_)
    | refine ko_bv ?_ (fun _ _ => ?_)
    | refine ko_sui (by assumption) ?_
    | refine ko_suj (by assumption) ?_
    | refine ko_suc (by assumption) ?_
    | refine ko_suw (by assumption) ?_
    | refine ko_none
    | (refine fr_X10_isHouse ?_ (by assumption))
    | (refine fr_X10_in ?_ (by assumption))
    | (refine fr_X10_keeps ?_ (by assumption))
    | (refine fr_X10_torches_38 ?_ (by assumption))
  all_goals (intro a k q; have q2 := hP a k q; clear hP q; obtain ⟨q0_, q1_, q2_, q3_, q4_, q5_, q6_, q7_, q8_⟩ := q2)
  all_goals ((repeat' apply And.intro) <;> first | exact trivial | assumption | exact fun e => absurd e.1 (by assumption))

theorem fr_X10_sleptIn {P : Nat → Nat → Prop} {σ0 σ : mm_S} {a0 : Nat} {i1 : Int32} (hP : ∀ a k, P a k → a ≠ 224 ∧ a ≠ 226 ∧ a ≠ 227 ∧ ¬ (a = a0 ∧ k = 28) ∧ a ≠ 223 ∧ ¬ (a = a0 ∧ k = 18) ∧ a ≠ 222 ∧ ¬ (a = a0 ∧ k = 24)) (h : ko_K P σ0 σ) : ko Prod.snd P σ0 (f_X10_sleptIn a0 i1 σ) := by
  unfold f_X10_sleptIn
  repeat' with_reducible first
    | assumption
    | refine ko_someV ?_
    | refine ko_someR ?_
    | refine ko_ite ?_ ?_
    | refine ko_gd (fun _ => ?_)
    | refine ko_gz ?_
    | refine ko_gb ?_
    | refine ko_gq ?_
    | refine ko_gl ?_
    | refine ko_lts ?_ (fun _ _ => ?_)
    | refine ko_ltx (fun _ => ?_)
    | refine ko_bd ?_ (fun _ _ _ => ?_)
    | refine ko_bv ?_ (fun _ _ => ?_)
    | refine ko_sui (by assumption) ?_
    | refine ko_suj (by assumption) ?_
    | refine ko_suc (by assumption) ?_
    | refine ko_suw (by assumption) ?_
    | refine ko_none
    | (refine fr_X10_sleptAll ?_ (by assumption))
    | (refine fr_X10_passesAll ?_ (by assumption))
    | (refine fr_X10_laysBack ?_ (by assumption))
  all_goals (intro a k q; have q2 := hP a k q; clear hP q; obtain ⟨q0_, q1_, q2_, q3_, q4_, q5_, q6_, q7_⟩ := q2)
  all_goals ((repeat' apply And.intro) <;> first | exact trivial | assumption | exact fun e => absurd e.1 (by assumption))

theorem fr_X10_out_48 {P : Nat → Nat → Prop} {σ0 σ : mm_S} {a0 : Nat} {i1 : Int32} {i2 : Int32} {i3 : Int32} {i4 : Int32} {i5 : Int32} (hP : ∀ a k, P a k → ¬ (a = a0 ∧ k = 23) ∧ a ≠ 224 ∧ a ≠ 226 ∧ a ≠ 227 ∧ ¬ (a = a0 ∧ k = 28) ∧ a ≠ 223 ∧ ¬ (a = a0 ∧ k = 18) ∧ a ≠ 222 ∧ ¬ (a = a0 ∧ k = 24)) (h : ko_K P σ0 σ) : ko Prod.snd P σ0 (f_X10_out_48 a0 i1 i2 i3 i4 i5 σ) := by
  unfold f_X10_out_48
  refine ko_lp (fun rec hrec v τ hτ => ?_) lpN _ _ h
  repeat' with_reducible first
    | assumption
    | refine ko_someV ?_
    | refine ko_someR ?_
    | refine ko_ite ?_ ?_
    | refine ko_gd (fun _ => ?_)
    | refine ko_gz ?_
    | refine ko_gb ?_
    | refine ko_gq ?_
    | refine ko_gl ?_
    | refine ko_lts ?_ (fun _ _ => ?_)
    | refine ko_ltx (fun _ => ?_)
    | refine ko_bd ?_ (fun _ _ _ => ?_)
    | refine ko_bv ?_ (fun _ _ => ?_)
    | refine ko_sui (by assumption) ?_
    | refine ko_suj (by assumption) ?_
    | refine ko_suc (by assumption) ?_
    | refine ko_suw (by assumption) ?_
    | refine ko_none
    | (apply hrec; assumption)
    | (refine fr_X10_sleptIn ?_ (by assumption))
  all_goals (intro a k q; have q2 := hP a k q; clear hP q; obtain ⟨q0_, q1_, q2_, q3_, q4_, q5_, q6_, q7_, q8_⟩ := q2)
  all_goals ((repeat' apply And.intro) <;> first | exact trivial | assumption | exact fun e => absurd e.1 (by assumption))

theorem fr_X10_out {P : Nat → Nat → Prop} {σ0 σ : mm_S} {a0 : Nat} {i1 : Int32} {i2 : Int32} (hP : ∀ a k, P a k → a ≠ 229 ∧ a ≠ 224 ∧ a ≠ 226 ∧ a ≠ 227 ∧ ¬ (a = a0 ∧ k = 28) ∧ a ≠ 223 ∧ ¬ (a = a0 ∧ k = 18) ∧ a ≠ 222 ∧ ¬ (a = a0 ∧ k = 24) ∧ ¬ (a = a0 ∧ k = 23)) (h : ko_K P σ0 σ) : ko Prod.snd P σ0 (f_X10_out a0 i1 i2 σ) := by
  unfold f_X10_out
  repeat' with_reducible first
    | assumption
    | refine ko_someV ?_
    | refine ko_someR ?_
    | refine ko_ite ?_ ?_
    | refine ko_gd (fun _ => ?_)
    | refine ko_gz ?_
    | refine ko_gb ?_
    | refine ko_gq ?_
    | refine ko_gl ?_
    | refine ko_lts ?_ (fun _ _ => ?_)
    | refine ko_ltx (fun _ => ?_)
    | refine ko_bd ?_ (fun _ _ _ => ?_)
    | refine ko_bv ?_ (fun _ _ => ?_)
    | refine ko_sui (by assumption) ?_
    | refine ko_suj (by assumption) ?_
    | refine ko_suc (by assumption) ?_
    | refine ko_suw (by assumption) ?_
    | refine ko_none
    | (refine fr_X10_isHouse ?_ (by assumption))
    | (refine fr_X10_in ?_ (by assumption))
    | (refine fr_X10_keeps ?_ (by assumption))
    | (refine fr_X10_sleptIn ?_ (by assumption))
    | (refine fr_X10_out_48 ?_ (by assumption))
  all_goals (intro a k q; have q2 := hP a k q; clear hP q; obtain ⟨q0_, q1_, q2_, q3_, q4_, q5_, q6_, q7_, q8_, q9_⟩ := q2)
  all_goals ((repeat' apply And.intro) <;> first | exact trivial | assumption | exact fun e => absurd e.1 (by assumption))

theorem fr_X10_sleeps_49 {P : Nat → Nat → Prop} {σ0 σ : mm_S} {a0 : Nat} {i2 : Int32} {i3 : Int32} {i4 : Int32} {i5 : Int32} (hP : ∀ a k, P a k → a ≠ 224) (h : ko_K P σ0 σ) : ko Prod.snd P σ0 (f_X10_sleeps_49 a0 i2 i3 i4 i5 σ) := by
  unfold f_X10_sleeps_49
  refine ko_lp (fun rec hrec v τ hτ => ?_) lpN _ _ h
  repeat' with_reducible first
    | assumption
    | refine ko_someV ?_
    | refine ko_someR ?_
    | refine ko_ite ?_ ?_
    | refine ko_gd (fun _ => ?_)
    | refine ko_gz ?_
    | refine ko_gb ?_
    | refine ko_gq ?_
    | refine ko_gl ?_
    | refine ko_lts ?_ (fun _ _ => ?_)
    | refine ko_ltx (fun _ => ?_)
    | refine ko_bd ?_ (fun _ _ _ => ?_)
    | refine ko_bv ?_ (fun _ _ => ?_)
    | refine ko_sui (by assumption) ?_
    | refine ko_suj (by assumption) ?_
    | refine ko_suc (by assumption) ?_
    | refine ko_suw (by assumption) ?_
    | refine ko_none
    | (apply hrec; assumption)
    | (refine fr_X10_laysBack ?_ (by assumption))
    | (refine fr_X10_sleptBy ?_ (by assumption))
  all_goals (intro a k q; have q2 := hP a k q; clear hP q; have q0_ := q2; clear q2)
  all_goals ((repeat' apply And.intro) <;> first | exact trivial | assumption | exact fun e => absurd e.1 (by assumption))

theorem fr_X10_sleeps {P : Nat → Nat → Prop} {σ0 σ : mm_S} {a0 : Nat} {i1 : Int32} {i2 : Int32} (hP : ∀ a k, P a k → a ≠ 229 ∧ a ≠ 224 ∧ a ≠ 226 ∧ a ≠ 227 ∧ ¬ (a = a0 ∧ k = 28) ∧ a ≠ 223 ∧ ¬ (a = a0 ∧ k = 18) ∧ a ≠ 222 ∧ ¬ (a = a0 ∧ k = 24)) (h : ko_K P σ0 σ) : ko Prod.snd P σ0 (f_X10_sleeps a0 i1 i2 σ) := by
  unfold f_X10_sleeps
  repeat' with_reducible first
    | assumption
    | refine ko_someV ?_
    | refine ko_someR ?_
    | refine ko_ite ?_ ?_
    | refine ko_gd (fun _ => ?_)
    | refine ko_gz ?_
    | refine ko_gb ?_
    | refine ko_gq ?_
    | refine ko_gl ?_
    | refine ko_lts ?_ (fun _ _ => ?_)
    | refine ko_ltx (fun _ => ?_)
    | refine ko_bd ?_ (fun _ _ _ => ?_)
    | refine ko_bv ?_ (fun _ _ => ?_)
    | refine ko_sui (by assumption) ?_
    | refine ko_suj (by assumption) ?_
    | refine ko_suc (by assumption) ?_
    | refine ko_suw (by assumption) ?_
    | refine ko_none
    | (refine fr_X10_isHouse ?_ (by assumption))
    | (refine fr_X10_in ?_ (by assumption))
    | (refine fr_X10_keeps ?_ (by assumption))
    | (refine fr_X10_passesAll ?_ (by assumption))
    | (refine fr_X10_sleeps_49 ?_ (by assumption))
  all_goals (intro a k q; have q2 := hP a k q; clear hP q; obtain ⟨q0_, q1_, q2_, q3_, q4_, q5_, q6_, q7_, q8_⟩ := q2)
  all_goals ((repeat' apply And.intro) <;> first | exact trivial | assumption | exact fun e => absurd e.1 (by assumption))

theorem fr_X10_areAlike_13 {P : Nat → Nat → Prop} {σ0 σ : mm_S} {a0 : Nat} {i1 : Int32} {i2 : Int32} {i3 : Int32} (hP : ∀ a k, P a k → True) (h : ko_K P σ0 σ) : ko Prod.snd P σ0 (f_X10_areAlike_13 a0 i1 i2 i3 σ) := by
  unfold f_X10_areAlike_13
  refine ko_lp (fun rec hrec v τ hτ => ?_) lpN _ _ h
  repeat' with_reducible first
    | assumption
    | refine ko_someV ?_
    | refine ko_someR ?_
    | refine ko_ite ?_ ?_
    | refine ko_gd (fun _ => ?_)
    | refine ko_gz ?_
    | refine ko_gb ?_
    | refine ko_gq ?_
    | refine ko_gl ?_
    | refine ko_lts ?_ (fun _ _ => ?_)
    | refine ko_ltx (fun _ => ?_)
    | refine ko_bd ?_ (fun _ _ _ => ?_)
    | refine ko_bv ?_ (fun _ _ => ?_)
    | refine ko_sui (by assumption) ?_
    | refine ko_suj (by assumption) ?_
    | refine ko_suc (by assumption) ?_
    | refine ko_suw (by assumption) ?_
    | refine ko_none
    | (apply hrec; assumption)
  all_goals (intro a k q; have q2 := hP a k q; clear hP q)
  all_goals ((repeat' apply And.intro) <;> first | exact trivial | assumption)

theorem fr_X10_areAlike {P : Nat → Nat → Prop} {σ0 σ : mm_S} {a0 : Nat} {i1 : Int32} {i2 : Int32} (hP : ∀ a k, P a k → True) (h : ko_K P σ0 σ) : ko Prod.snd P σ0 (f_X10_areAlike a0 i1 i2 σ) := by
  unfold f_X10_areAlike
  repeat' with_reducible first
    | assumption
    | refine ko_someV ?_
    | refine ko_someR ?_
    | refine ko_ite ?_ ?_
    | refine ko_gd (fun _ => ?_)
    | refine ko_gz ?_
    | refine ko_gb ?_
    | refine ko_gq ?_
    | refine ko_gl ?_
    | refine ko_lts ?_ (fun _ _ => ?_)
    | refine ko_ltx (fun _ => ?_)
    | refine ko_bd ?_ (fun _ _ _ => ?_)
    | refine ko_bv ?_ (fun _ _ => ?_)
    | refine ko_sui (by assumption) ?_
    | refine ko_suj (by assumption) ?_
    | refine ko_suc (by assumption) ?_
    | refine ko_suw (by assumption) ?_
    | refine ko_none
    | (refine fr_X10_areAlike_13 ?_ (by assumption))
  all_goals (intro a k q; have q2 := hP a k q; clear hP q)
  all_goals ((repeat' apply And.intro) <;> first | exact trivial | assumption)

theorem fr_X10_ring_115 {P : Nat → Nat → Prop} {σ0 σ : mm_S} {k105 : (Int32) → mm_S → Option (Int32 × mm_S)} {a0 : Nat} {i1 : Int32} {i2 : Int32} {i3 : Int32} (hP : ∀ a k, P a k → True) (hk0 : ∀ v τ, ko_K P σ0 τ → ko Prod.snd P σ0 (k105 v τ)) (h : ko_K P σ0 σ) : ko Prod.snd P σ0 (f_X10_ring_115 k105 a0 i1 i2 i3 σ) := by
  unfold f_X10_ring_115
  refine ko_lp (fun rec hrec v τ hτ => ?_) lpN _ _ h
  repeat' with_reducible first
    | assumption
    | refine ko_someV ?_
    | refine ko_someR ?_
    | refine ko_ite ?_ ?_
    | refine ko_gd (fun _ => ?_)
    | refine ko_gz ?_
    | refine ko_gb ?_
    | refine ko_gq ?_
    | refine ko_gl ?_
    | refine ko_lts ?_ (fun _ _ => ?_)
    | refine ko_ltx (fun _ => ?_)
    | refine ko_bd ?_ (fun _ _ _ => ?_)
    | refine ko_bv ?_ (fun _ _ => ?_)
    | refine ko_sui (by assumption) ?_
    | refine ko_suj (by assumption) ?_
    | refine ko_suc (by assumption) ?_
    | refine ko_suw (by assumption) ?_
    | refine ko_none
    | (apply hk0; assumption)
    | (apply hrec; assumption)
    | (refine fr_X10_areAlike ?_ (by assumption))
  all_goals (intro a k q; have q2 := hP a k q; clear hP q)
  all_goals ((repeat' apply And.intro) <;> first | exact trivial | assumption)

theorem fr_X10_ring_105 {P : Nat → Nat → Prop} {σ0 σ : mm_S} {a0 : Nat} {i1 : Int32} {i2 : Int32} (hP : ∀ a k, P a k → True) (h : ko_K P σ0 σ) : ko Prod.snd P σ0 (f_X10_ring_105 a0 i1 i2 σ) := by
  unfold f_X10_ring_105
  refine ko_lp (fun rec hrec v τ hτ => ?_) lpN _ _ h
  repeat' with_reducible first
    | assumption
    | refine ko_someV ?_
    | refine ko_someR ?_
    | refine ko_ite ?_ ?_
    | refine ko_gd (fun _ => ?_)
    | refine ko_gz ?_
    | refine ko_gb ?_
    | refine ko_gq ?_
    | refine ko_gl ?_
    | refine ko_lts ?_ (fun _ _ => ?_)
    | refine ko_ltx (fun _ => ?_)
    | refine ko_bd ?_ (fun _ _ _ => ?_)
    | refine ko_bv ?_ (fun _ _ => ?_)
    | refine ko_sui (by assumption) ?_
    | refine ko_suj (by assumption) ?_
    | refine ko_suc (by assumption) ?_
    | refine ko_suw (by assumption) ?_
    | refine ko_none
    | (apply hrec; assumption)
    | (refine fr_X10_ring_115 ?_ (by first | exact hrec) (by assumption))
  all_goals (intro a k q; have q2 := hP a k q; clear hP q)
  all_goals ((repeat' apply And.intro) <;> first | exact trivial | assumption)

theorem fr_X10_ring_33 {P : Nat → Nat → Prop} {σ0 σ : mm_S} {k25 : (Int32) → mm_S → Option (Int32 × mm_S)} {a0 : Nat} {i1 : Int32} {i2 : Int32} {i3 : Int32} (hP : ∀ a k, P a k → a ≠ 232 ∧ a ≠ 224 ∧ a ≠ 226 ∧ a ≠ 227 ∧ ¬ (a = a0 ∧ k = 28) ∧ a ≠ 223 ∧ ¬ (a = a0 ∧ k = 18) ∧ a ≠ 222 ∧ ¬ (a = a0 ∧ k = 24)) (hk0 : ∀ v τ, ko_K P σ0 τ → ko Prod.snd P σ0 (k25 v τ)) (h : ko_K P σ0 σ) : ko Prod.snd P σ0 (f_X10_ring_33 k25 a0 i1 i2 i3 σ) := by
  unfold f_X10_ring_33
  refine ko_lp (fun rec hrec v τ hτ => ?_) lpN _ _ h
  repeat' with_reducible first
    | assumption
    | refine ko_someV ?_
    | refine ko_someR ?_
    | refine ko_ite ?_ ?_
    | refine ko_gd (fun _ => ?_)
    | refine ko_gz ?_
    | refine ko_gb ?_
    | refine ko_gq ?_
    | refine ko_gl ?_
    | refine ko_lts ?_ (fun _ _ => ?_)
    | refine ko_ltx (fun _ => ?_)
    | refine ko_bd ?_ (fun _ _ _ => ?_)
    | refine ko_bv ?_ (fun _ _ => ?_)
    | refine ko_sui (by assumption) ?_
    | refine ko_suj (by assumption) ?_
    | refine ko_suc (by assumption) ?_
    | refine ko_suw (by assumption) ?_
    | refine ko_none
    | (apply hk0; assumption)
    | (apply hrec; assumption)
    | (refine fr_X10_passes ?_ (by assumption))
    | (refine fr_X10_soughtBy ?_ (by assumption))
  all_goals (intro a k q; have q2 := hP a k q; clear hP q; obtain ⟨q0_, q1_, q2_, q3_, q4_, q5_, q6_, q7_, q8_⟩ := q2)
  all_goals ((repeat' apply And.intro) <;> first | exact trivial | assumption | exact fun e => absurd e.1 (by assumption))

theorem fr_X10_ring_25 {P : Nat → Nat → Prop} {σ0 σ : mm_S} {a0 : Nat} {i1 : Int32} {i2 : Int32} (hP : ∀ a k, P a k → a ≠ 224 ∧ a ≠ 232 ∧ a ≠ 226 ∧ a ≠ 227 ∧ ¬ (a = a0 ∧ k = 28) ∧ a ≠ 223 ∧ ¬ (a = a0 ∧ k = 18) ∧ a ≠ 222 ∧ ¬ (a = a0 ∧ k = 24)) (h : ko_K P σ0 σ) : ko Prod.snd P σ0 (f_X10_ring_25 a0 i1 i2 σ) := by
  unfold f_X10_ring_25
  refine ko_lp (fun rec hrec v τ hτ => ?_) lpN _ _ h
  repeat' with_reducible first
    | assumption
    | refine ko_someV ?_
    | refine ko_someR ?_
    | refine ko_ite ?_ ?_
    | refine ko_gd (fun _ => ?_)
    | refine ko_gz ?_
    | refine ko_gb ?_
    | refine ko_gq ?_
    | refine ko_gl ?_
    | refine ko_lts ?_ (fun _ _ => ?_)
    | refine ko_ltx (fun _ => ?_)
    | refine ko_bd ?_ (fun _ _ _ => ?_)
    | refine ko_bv ?_ (fun _ _ => ?_)
    | refine ko_sui (by assumption) ?_
    | refine ko_suj (by assumption) ?_
    | refine ko_suc (by assumption) ?_
    | refine ko_suw (by assumption) ?_
    | refine ko_none
    | (apply hrec; assumption)
    | (refine fr_X10_laysBack ?_ (by assumption))
    | (refine fr_X10_ring_105 ?_ (by assumption))
    | (refine fr_X10_ring_33 ?_ (by first | exact hrec) (by assumption))
  all_goals (intro a k q; have q2 := hP a k q; clear hP q; obtain ⟨q0_, q1_, q2_, q3_, q4_, q5_, q6_, q7_, q8_⟩ := q2)
  all_goals ((repeat' apply And.intro) <;> first | exact trivial | assumption | exact fun e => absurd e.1 (by assumption))

theorem fr_X10_ring {P : Nat → Nat → Prop} {σ0 σ : mm_S} {a0 : Nat} {i1 : Int32} (hP : ∀ a k, P a k → a ≠ 229 ∧ a ≠ 224 ∧ a ≠ 232 ∧ a ≠ 226 ∧ a ≠ 227 ∧ ¬ (a = a0 ∧ k = 28) ∧ a ≠ 223 ∧ ¬ (a = a0 ∧ k = 18) ∧ a ≠ 222 ∧ ¬ (a = a0 ∧ k = 24)) (h : ko_K P σ0 σ) : ko Prod.snd P σ0 (f_X10_ring a0 i1 σ) := by
  unfold f_X10_ring
  repeat' with_reducible first
    | assumption
    | refine ko_someV ?_
    | refine ko_someR ?_
    | refine ko_ite ?_ ?_
    | refine ko_gd (fun _ => ?_)
    | refine ko_gz ?_
    | refine ko_gb ?_
    | refine ko_gq ?_
    | refine ko_gl ?_
    | refine ko_lts ?_ (fun _ _ => ?_)
    | refine ko_ltx (fun _ => ?_)
    | refine ko_bd ?_ (fun _ _ _ => ?_)
    | refine ko_bv ?_ (fun _ _ => ?_)
    | refine ko_sui (by assumption) ?_
    | refine ko_suj (by assumption) ?_
    | refine ko_suc (by assumption) ?_
    | refine ko_suw (by assumption) ?_
    | refine ko_none
    | (refine fr_X10_isHouse ?_ (by assumption))
    | (refine fr_X10_in ?_ (by assumption))
    | (refine fr_X10_keeps ?_ (by assumption))
    | (refine fr_X10_ring_25 ?_ (by assumption))
  all_goals (intro a k q; have q2 := hP a k q; clear hP q; obtain ⟨q0_, q1_, q2_, q3_, q4_, q5_, q6_, q7_, q8_, q9_⟩ := q2)
  all_goals ((repeat' apply And.intro) <;> first | exact trivial | assumption | exact fun e => absurd e.1 (by assumption))

theorem fr_X10_pennies_111 {P : Nat → Nat → Prop} {σ0 σ : mm_S} {k51 : (Int32 × Int32 × Int32) → mm_S → Option (Int32 × mm_S)} {a0 : Nat} {i1 : Int32} {i2 : Int32} {i3 : Int32} {i4 : Int32} {i5 : Int32} {i7 : Int32} {s0 : Int32} (hP : ∀ a k, P a k → True) (hk0 : ∀ v τ, ko_K P σ0 τ → ko Prod.snd P σ0 (k51 v τ)) (h : ko_K P σ0 σ) : ko Prod.snd P σ0 (f_X10_pennies_111 k51 a0 i1 i2 i3 i4 i5 i7 s0 σ) := by
  unfold f_X10_pennies_111
  repeat' with_reducible first
    | assumption
    | refine ko_someV ?_
    | refine ko_someR ?_
    | refine ko_ite ?_ ?_
    | refine ko_gd (fun _ => ?_)
    | refine ko_gz ?_
    | refine ko_gb ?_
    | refine ko_gq ?_
    | refine ko_gl ?_
    | refine ko_lts ?_ (fun _ _ => ?_)
    | refine ko_ltx (fun _ => ?_)
    | refine ko_bd ?_ (fun _ _ _ => ?_)
    | refine ko_bv ?_ (fun _ _ => ?_)
    | refine ko_sui (by assumption) ?_
    | refine ko_suj (by assumption) ?_
    | refine ko_suc (by assumption) ?_
    | refine ko_suw (by assumption) ?_
    | refine ko_none
    | (apply hk0; assumption)
  all_goals (intro a k q; have q2 := hP a k q; clear hP q)
  all_goals ((repeat' apply And.intro) <;> first | exact trivial | assumption)

theorem fr_X10_pennies_115 {P : Nat → Nat → Prop} {σ0 σ : mm_S} {k51 : (Int32 × Int32 × Int32) → mm_S → Option (Int32 × mm_S)} {a0 : Nat} {i1 : Int32} {i2 : Int32} {i3 : Int32} {i4 : Int32} {i5 : Int32} {i7 : Int32} {s0 : Int32} (hP : ∀ a k, P a k → True) (hk0 : ∀ v τ, ko_K P σ0 τ → ko Prod.snd P σ0 (k51 v τ)) (h : ko_K P σ0 σ) : ko Prod.snd P σ0 (f_X10_pennies_115 k51 a0 i1 i2 i3 i4 i5 i7 s0 σ) := by
  unfold f_X10_pennies_115
  repeat' with_reducible first
    | assumption
    | refine ko_someV ?_
    | refine ko_someR ?_
    | refine ko_ite ?_ ?_
    | refine ko_gd (fun _ => ?_)
    | refine ko_gz ?_
    | refine ko_gb ?_
    | refine ko_gq ?_
    | refine ko_gl ?_
    | refine ko_lts ?_ (fun _ _ => ?_)
    | refine ko_ltx (fun _ => ?_)
    | refine ko_bd ?_ (fun _ _ _ => ?_)
    | refine ko_bv ?_ (fun _ _ => ?_)
    | refine ko_sui (by assumption) ?_
    | refine ko_suj (by assumption) ?_
    | refine ko_suc (by assumption) ?_
    | refine ko_suw (by assumption) ?_
    | refine ko_none
    | (apply hk0; assumption)
  all_goals (intro a k q; have q2 := hP a k q; clear hP q)
  all_goals ((repeat' apply And.intro) <;> first | exact trivial | assumption)

theorem fr_X10_pennies_51 {P : Nat → Nat → Prop} {σ0 σ : mm_S} {a0 : Nat} {i1 : Int32} {i2 : Int32} {i3 : Int32} {i4 : Int32} {i5 : Int32} {i6 : Int32} {i7 : Int32} (hP : ∀ a k, P a k → True) (h : ko_K P σ0 σ) : ko Prod.snd P σ0 (f_X10_pennies_51 a0 i1 i2 i3 i4 i5 i6 i7 σ) := by
  unfold f_X10_pennies_51
  refine ko_lp (fun rec hrec v τ hτ => ?_) lpN _ _ h
  repeat' with_reducible first
    | assumption
    | refine ko_someV ?_
    | refine ko_someR ?_
    | refine ko_ite ?_ ?_
    | refine ko_gd (fun _ => ?_)
    | refine ko_gz ?_
    | refine ko_gb ?_
    | refine ko_gq ?_
    | refine ko_gl ?_
    | refine ko_lts ?_ (fun _ _ => ?_)
    | refine ko_ltx (fun _ => ?_)
    | refine ko_bd ?_ (fun _ _ _ => ?_)
    | refine ko_bv ?_ (fun _ _ => ?_)
    | refine ko_sui (by assumption) ?_
    | refine ko_suj (by assumption) ?_
    | refine ko_suc (by assumption) ?_
    | refine ko_suw (by assumption) ?_
    | refine ko_none
    | (apply hrec; assumption)
    | (refine fr_X10_sleptBy ?_ (by assumption))
    | (refine fr_X10_pennies_111 ?_ (by first | exact hrec) (by assumption))
    | (refine fr_X10_pennies_115 ?_ (by first | exact hrec) (by assumption))
  all_goals (intro a k q; have q2 := hP a k q; clear hP q)
  all_goals ((repeat' apply And.intro) <;> first | exact trivial | assumption)

theorem fr_X10_pennies {P : Nat → Nat → Prop} {σ0 σ : mm_S} {a0 : Nat} {i1 : Int32} {i2 : Int32} (hP : ∀ a k, P a k → True) (h : ko_K P σ0 σ) : ko Prod.snd P σ0 (f_X10_pennies a0 i1 i2 σ) := by
  unfold f_X10_pennies
  repeat' with_reducible first
    | assumption
    | refine ko_someV ?_
    | refine ko_someR ?_
    | refine ko_ite ?_ ?_
    | refine ko_gd (fun _ => ?_)
    | refine ko_gz ?_
    | refine ko_gb ?_
    | refine ko_gq ?_
    | refine ko_gl ?_
    | refine ko_lts ?_ (fun _ _ => ?_)
    | refine ko_ltx (fun _ => ?_)
    | refine ko_bd ?_ (fun _ _ _ => ?_)
    | refine ko_bv ?_ (fun _ _ => ?_)
    | refine ko_sui (by assumption) ?_
    | refine ko_suj (by assumption) ?_
    | refine ko_suc (by assumption) ?_
    | refine ko_suw (by assumption) ?_
    | refine ko_none
    | (refine fr_X10_isLodger ?_ (by assumption))
    | (refine fr_X10_in ?_ (by assumption))
    | (refine fr_X10_sleptAll ?_ (by assumption))
    | (refine fr_X10_sleptBy ?_ (by assumption))
    | (refine fr_X10_pennies_51 ?_ (by assumption))
  all_goals (intro a k q; have q2 := hP a k q; clear hP q)
  all_goals ((repeat' apply And.intro) <;> first | exact trivial | assumption)

theorem fr_X10_isRest_54 {P : Nat → Nat → Prop} {σ0 σ : mm_S} {k3 : (Int32) → mm_S → Option (Int32 × mm_S)} {a0 : Nat} {i1 : Int32} {i2 : Int32} {i3 : Int32} {i4 : Int32} {i5 : Int32} (hP : ∀ a k, P a k → True) (hk0 : ∀ v τ, ko_K P σ0 τ → ko Prod.snd P σ0 (k3 v τ)) (h : ko_K P σ0 σ) : ko Prod.snd P σ0 (f_X10_isRest_54 k3 a0 i1 i2 i3 i4 i5 σ) := by
  unfold f_X10_isRest_54
  repeat' with_reducible first
    | assumption
    | refine ko_someV ?_
    | refine ko_someR ?_
    | refine ko_ite ?_ ?_
    | refine ko_gd (fun _ => ?_)
    | refine ko_gz ?_
    | refine ko_gb ?_
    | refine ko_gq ?_
    | refine ko_gl ?_
    | refine ko_lts ?_ (fun _ _ => ?_)
    | refine ko_ltx (fun _ => ?_)
    | refine ko_bd ?_ (fun _ _ _ => ?_)
    | refine ko_bv ?_ (fun _ _ => ?_)
    | refine ko_sui (by assumption) ?_
    | refine ko_suj (by assumption) ?_
    | refine ko_suc (by assumption) ?_
    | refine ko_suw (by assumption) ?_
    | refine ko_none
    | (apply hk0; assumption)
  all_goals (intro a k q; have q2 := hP a k q; clear hP q)
  all_goals ((repeat' apply And.intro) <;> first | exact trivial | assumption)

theorem fr_X10_isRest_3 {P : Nat → Nat → Prop} {σ0 σ : mm_S} {a0 : Nat} {i1 : Int32} {i2 : Int32} {i3 : Int32} {i4 : Int32} {i5 : Int32} (hP : ∀ a k, P a k → True) (h : ko_K P σ0 σ) : ko Prod.snd P σ0 (f_X10_isRest_3 a0 i1 i2 i3 i4 i5 σ) := by
  unfold f_X10_isRest_3
  refine ko_lp (fun rec hrec v τ hτ => ?_) lpN _ _ h
  repeat' with_reducible first
    | assumption
    | refine ko_someV ?_
    | refine ko_someR ?_
    | refine ko_ite ?_ ?_
    | refine ko_gd (fun _ => ?_)
    | refine ko_gz ?_
    | refine ko_gb ?_
    | refine ko_gq ?_
    | refine ko_gl ?_
    | refine ko_lts ?_ (fun _ _ => ?_)
    | refine ko_ltx (fun _ => ?_)
    | refine ko_bd ?_ (fun _ _ _ => ?_)
    | refine ko_bv ?_ (fun _ _ => ?_)
    | refine ko_sui (by assumption) ?_
    | refine ko_suj (by assumption) ?_
    | refine ko_suc (by assumption) ?_
    | refine ko_suw (by assumption) ?_
    | refine ko_none
    | (apply hrec; assumption)
    | (refine fr_X10_isRest_54 ?_ (by first | exact hrec) (by assumption))
  all_goals (intro a k q; have q2 := hP a k q; clear hP q)
  all_goals ((repeat' apply And.intro) <;> first | exact trivial | assumption)

theorem fr_X10_isRest {P : Nat → Nat → Prop} {σ0 σ : mm_S} {a0 : Nat} {i1 : Int32} {i2 : Int32} {i3 : Int32} {i4 : Int32} (hP : ∀ a k, P a k → True) (h : ko_K P σ0 σ) : ko Prod.snd P σ0 (f_X10_isRest a0 i1 i2 i3 i4 σ) := by
  unfold f_X10_isRest
  repeat' with_reducible first
    | assumption
    | refine ko_someV ?_
    | refine ko_someR ?_
    | refine ko_ite ?_ ?_
    | refine ko_gd (fun _ => ?_)
    | refine ko_gz ?_
    | refine ko_gb ?_
    | refine ko_gq ?_
    | refine ko_gl ?_
    | refine ko_lts ?_ (fun _ _ => ?_)
    | refine ko_ltx (fun _ => ?_)
    | refine ko_bd ?_ (fun _ _ _ => ?_)
    | refine ko_bv ?_ (fun _ _ => ?_)
    | refine ko_sui (by assumption) ?_
    | refine ko_suj (by assumption) ?_
    | refine ko_suc (by assumption) ?_
    | refine ko_suw (by assumption) ?_
    | refine ko_none
    | (refine fr_X10_isRest_3 ?_ (by assumption))
  all_goals (intro a k q; have q2 := hP a k q; clear hP q)
  all_goals ((repeat' apply And.intro) <;> first | exact trivial | assumption)

theorem fr_X10_fillsRests_32 {P : Nat → Nat → Prop} {σ0 σ : mm_S} {k18 : (Int32) → mm_S → Option (mm_S)} {a0 : Nat} {i1 : Int32} {i2 : Int32} {i3 : Int32} {i4 : Int32} {i5 : Int32} (hP : ∀ a k, P a k → a ≠ 225 ∧ a ≠ 233 ∧ a ≠ 224 ∧ a ≠ 226 ∧ a ≠ 227 ∧ ¬ (a = a0 ∧ k = 28) ∧ a ≠ 223 ∧ ¬ (a = a0 ∧ k = 18) ∧ a ≠ 222 ∧ ¬ (a = a0 ∧ k = 24)) (hk0 : ∀ v τ, ko_K P σ0 τ → ko id P σ0 (k18 v τ)) (h : ko_K P σ0 σ) : ko id P σ0 (f_X10_fillsRests_32 k18 a0 i1 i2 i3 i4 i5 σ) := by
  unfold f_X10_fillsRests_32
  refine ko_lp (fun rec hrec v τ hτ => ?_) lpN _ _ h
  repeat' with_reducible first
    | assumption
    | refine ko_someV ?_
    | refine ko_someR ?_
    | refine ko_ite ?_ ?_
    | refine ko_gd (fun _ => ?_)
    | refine ko_gz ?_
    | refine ko_gb ?_
    | refine ko_gq ?_
    | refine ko_gl ?_
    | refine ko_lts ?_ (fun _ _ => ?_)
    | refine ko_ltx (fun _ => ?_)
    | refine ko_bd ?_ (fun _ _ _ => ?_)
    | refine ko_bv ?_ (fun _ _ => ?_)
    | refine ko_sui (by assumption) ?_
    | refine ko_suj (by assumption) ?_
    | refine ko_suc (by assumption) ?_
    | refine ko_suw (by assumption) ?_
    | refine ko_none
    | (apply hk0; assumption)
    | (apply hrec; assumption)
    | (refine fr_X10_passesAll ?_ (by assumption))
    | (refine fr_X10_tiredOf ?_ (by assumption))
    | (refine fr_X10_laysBack ?_ (by assumption))
  all_goals (intro a k q; have q2 := hP a k q; clear hP q; obtain ⟨q0_, q1_, q2_, q3_, q4_, q5_, q6_, q7_, q8_, q9_⟩ := q2)
  all_goals ((repeat' apply And.intro) <;> first | exact trivial | assumption | exact fun e => absurd e.1 (by assumption))

theorem fr_X10_fillsRests_18 {P : Nat → Nat → Prop} {σ0 σ : mm_S} {a0 : Nat} {i1 : Int32} {i2 : Int32} {i3 : Int32} {i4 : Int32} (hP : ∀ a k, P a k → ¬ (a = a0 ∧ k = 25) ∧ a ≠ 225 ∧ a ≠ 233 ∧ a ≠ 224 ∧ a ≠ 226 ∧ a ≠ 227 ∧ ¬ (a = a0 ∧ k = 28) ∧ a ≠ 223 ∧ ¬ (a = a0 ∧ k = 18) ∧ a ≠ 222 ∧ ¬ (a = a0 ∧ k = 24)) (h : ko_K P σ0 σ) : ko id P σ0 (f_X10_fillsRests_18 a0 i1 i2 i3 i4 σ) := by
  unfold f_X10_fillsRests_18
  refine ko_lp (fun rec hrec v τ hτ => ?_) lpN _ _ h
  repeat' with_reducible first
    | assumption
    | refine ko_someV ?_
    | refine ko_someR ?_
    | refine ko_ite ?_ ?_
    | refine ko_gd (fun _ => ?_)
    | refine ko_gz ?_
    | refine ko_gb ?_
    | refine ko_gq ?_
    | refine ko_gl ?_
    | refine ko_lts ?_ (fun _ _ => ?_)
    | refine ko_ltx (fun _ => ?_)
    | refine ko_bd ?_ (fun _ _ _ => ?_)
    | refine ko_bv ?_ (fun _ _ => ?_)
    | refine ko_sui (by assumption) ?_
    | refine ko_suj (by assumption) ?_
    | refine ko_suc (by assumption) ?_
    | refine ko_suw (by assumption) ?_
    | refine ko_none
    | (apply hrec; assumption)
    | (refine fr_X10_fillsRests_32 ?_ (by first | exact hrec) (by assumption))
  all_goals (intro a k q; have q2 := hP a k q; clear hP q; obtain ⟨q0_, q1_, q2_, q3_, q4_, q5_, q6_, q7_, q8_, q9_, q10_⟩ := q2)
  all_goals ((repeat' apply And.intro) <;> first | exact trivial | assumption | exact fun e => absurd e.1 (by assumption))

theorem fr_X10_fillsRests {P : Nat → Nat → Prop} {σ0 σ : mm_S} {a0 : Nat} {i1 : Int32} {i2 : Int32} {i3 : Int32} (hP : ∀ a k, P a k → ¬ (a = a0 ∧ k = 25) ∧ a ≠ 229 ∧ a ≠ 225 ∧ a ≠ 233 ∧ a ≠ 224 ∧ a ≠ 226 ∧ a ≠ 227 ∧ ¬ (a = a0 ∧ k = 28) ∧ a ≠ 223 ∧ ¬ (a = a0 ∧ k = 18) ∧ a ≠ 222 ∧ ¬ (a = a0 ∧ k = 24)) (h : ko_K P σ0 σ) : ko id P σ0 (f_X10_fillsRests a0 i1 i2 i3 σ) := by
  unfold f_X10_fillsRests
  repeat' with_reducible first
    | assumption
    | refine ko_someV ?_
    | refine ko_someR ?_
    | refine ko_ite ?_ ?_
    | refine ko_gd (fun _ => ?_)
    | refine ko_gz ?_
    | refine ko_gb ?_
    | refine ko_gq ?_
    | refine ko_gl ?_
    | refine ko_lts ?_ (fun _ _ => ?_)
    | refine ko_ltx (fun _ => ?_)
    | refine ko_bd ?_ (fun _ _ _ => ?_)
    | refine ko_bv ?_ (fun _ _ => ?_)
    | refine ko_sui (by assumption) ?_
    | refine ko_suj (by assumption) ?_
    | refine ko_suc (by assumption) ?_
    | refine ko_suw (by assumption) ?_
    | refine ko_none
    | (refine fr_X10_keeps ?_ (by assumption))
    | (refine fr_X10_fillsRests_18 ?_ (by assumption))
  all_goals (intro a k q; have q2 := hP a k q; clear hP q; obtain ⟨q0_, q1_, q2_, q3_, q4_, q5_, q6_, q7_, q8_, q9_, q10_, q11_⟩ := q2)
  all_goals ((repeat' apply And.intro) <;> first | exact trivial | assumption | exact fun e => absurd e.1 (by assumption))

theorem fr_X10_rests_71 {P : Nat → Nat → Prop} {σ0 σ : mm_S} {k57 : (Int32 × Int32 × Int32 × Int32) → mm_S → Option (Int32 × mm_S)} {a0 : Nat} {i1 : Int32} {i2 : Int32} {i4 : Int32} {i5 : Int32} {i6 : Int32} {i7 : Int32} {i8 : Int32} {i9 : Int32} (hP : ∀ a k, P a k → True) (hk0 : ∀ v τ, ko_K P σ0 τ → ko Prod.snd P σ0 (k57 v τ)) (h : ko_K P σ0 σ) : ko Prod.snd P σ0 (f_X10_rests_71 k57 a0 i1 i2 i4 i5 i6 i7 i8 i9 σ) := by
  unfold f_X10_rests_71
  refine ko_lp (fun rec hrec v τ hτ => ?_) lpN _ _ h
  repeat' with_reducible first
    | assumption
    | refine ko_someV ?_
    | refine ko_someR ?_
    | refine ko_ite ?_ ?_
    | refine ko_gd (fun _ => ?_)
    | refine ko_gz ?_
    | refine ko_gb ?_
    | refine ko_gq ?_
    | refine ko_gl ?_
    | refine ko_lts ?_ (fun _ _ => ?_)
    | refine ko_ltx (fun _ => ?_)
    | refine ko_bd ?_ (fun _ _ _ => ?_)
    | refine ko_bv ?_ (fun _ _ => ?_)
    | refine ko_sui (by assumption) ?_
    | refine ko_suj (by assumption) ?_
    | refine ko_suc (by assumption) ?_
    | refine ko_suw (by assumption) ?_
    | refine ko_none
    | (apply hk0; assumption)
    | (apply hrec; assumption)
    | (refine fr_X10_isRest ?_ (by assumption))
  all_goals (intro a k q; have q2 := hP a k q; clear hP q)
  all_goals ((repeat' apply And.intro) <;> first | exact trivial | assumption)

theorem fr_X10_rests_57 {P : Nat → Nat → Prop} {σ0 σ : mm_S} {a0 : Nat} {i1 : Int32} {i2 : Int32} {i4 : Int32} {i5 : Int32} {i6 : Int32} {i7 : Int32} {i8 : Int32} (hP : ∀ a k, P a k → True) (h : ko_K P σ0 σ) : ko Prod.snd P σ0 (f_X10_rests_57 a0 i1 i2 i4 i5 i6 i7 i8 σ) := by
  unfold f_X10_rests_57
  refine ko_lp (fun rec hrec v τ hτ => ?_) lpN _ _ h
  repeat' with_reducible first
    | assumption
    | refine ko_someV ?_
    | refine ko_someR ?_
    | refine ko_ite ?_ ?_
    | refine ko_gd (fun _ => ?_)
    | refine ko_gz ?_
    | refine ko_gb ?_
    | refine ko_gq ?_
    | refine ko_gl ?_
    | refine ko_lts ?_ (fun _ _ => ?_)
    | refine ko_ltx (fun _ => ?_)
    | refine ko_bd ?_ (fun _ _ _ => ?_)
    | refine ko_bv ?_ (fun _ _ => ?_)
    | refine ko_sui (by assumption) ?_
    | refine ko_suj (by assumption) ?_
    | refine ko_suc (by assumption) ?_
    | refine ko_suw (by assumption) ?_
    | refine ko_none
    | (apply hrec; assumption)
    | (refine fr_X10_rests_71 ?_ (by first | exact hrec) (by assumption))
  all_goals (intro a k q; have q2 := hP a k q; clear hP q)
  all_goals ((repeat' apply And.intro) <;> first | exact trivial | assumption)

theorem fr_X10_rests {P : Nat → Nat → Prop} {σ0 σ : mm_S} {a0 : Nat} {i1 : Int32} {i2 : Int32} {i3 : Int32} {i4 : Int32} (hP : ∀ a k, P a k → ¬ (a = a0 ∧ k = 25) ∧ a ≠ 229 ∧ a ≠ 225 ∧ a ≠ 233 ∧ a ≠ 224 ∧ a ≠ 226 ∧ a ≠ 227 ∧ ¬ (a = a0 ∧ k = 28) ∧ a ≠ 223 ∧ ¬ (a = a0 ∧ k = 18) ∧ a ≠ 222 ∧ ¬ (a = a0 ∧ k = 24)) (h : ko_K P σ0 σ) : ko Prod.snd P σ0 (f_X10_rests a0 i1 i2 i3 i4 σ) := by
  unfold f_X10_rests
  repeat' with_reducible first
    | assumption
    | refine ko_someV ?_
    | refine ko_someR ?_
    | refine ko_ite ?_ ?_
    | refine ko_gd (fun _ => ?_)
    | refine ko_gz ?_
    | refine ko_gb ?_
    | refine ko_gq ?_
    | refine ko_gl ?_
    | refine ko_lts ?_ (fun _ _ => ?_)
    | refine ko_ltx (fun _ => ?_)
    | refine ko_bd ?_ (fun _ _ _ => ?_)
    | refine ko_bv ?_ (fun _ _ => ?_)
    | refine ko_sui (by assumption) ?_
    | refine ko_suj (by assumption) ?_
    | refine ko_suc (by assumption) ?_
    | refine ko_suw (by assumption) ?_
    | refine ko_none
    | (refine fr_X10_areTwo ?_ (by assumption))
    | (refine fr_X10_in ?_ (by assumption))
    | (refine fr_X10_fillsRests ?_ (by assumption))
    | (refine fr_X10_rests_57 ?_ (by assumption))
  all_goals (intro a k q; have q2 := hP a k q; clear hP q; obtain ⟨q0_, q1_, q2_, q3_, q4_, q5_, q6_, q7_, q8_, q9_, q10_, q11_⟩ := q2)
  all_goals ((repeat' apply And.intro) <;> first | exact trivial | assumption | exact fun e => absurd e.1 (by assumption))

theorem fr_X10_stays {P : Nat → Nat → Prop} {σ0 σ : mm_S} {a0 : Nat} {i1 : Int32} (hP : ∀ a k, P a k → a ≠ 229 ∧ a ≠ 224 ∧ a ≠ 226 ∧ a ≠ 227 ∧ ¬ (a = a0 ∧ k = 28) ∧ a ≠ 223 ∧ ¬ (a = a0 ∧ k = 18) ∧ a ≠ 222 ∧ ¬ (a = a0 ∧ k = 24)) (h : ko_K P σ0 σ) : ko Prod.snd P σ0 (f_X10_stays a0 i1 σ) := by
  unfold f_X10_stays
  repeat' with_reducible first
    | assumption
    | refine ko_someV ?_
    | refine ko_someR ?_
    | refine ko_ite ?_ ?_
    | refine ko_gd (fun _ => ?_)
    | refine ko_gz ?_
    | refine ko_gb ?_
    | refine ko_gq ?_
    | refine ko_gl ?_
    | refine ko_lts ?_ (fun _ _ => ?_)
    | refine ko_ltx (fun _ => ?_)
    | refine ko_bd ?_ (fun _ _ _ => ?_)
    | refine ko_bv ?_ (fun _ _ => ?_)
    | refine ko_sui (by assumption) ?_
    | refine ko_suj (by assumption) ?_
    | refine ko_suc (by assumption) ?_
    | refine ko_suw (by assumption) ?_
    | refine ko_none
    | (refine fr_X10_isHouse ?_ (by assumption))
    | (refine fr_X10_in ?_ (by assumption))
    | (refine fr_X10_keeps ?_ (by assumption))
    | (refine fr_X10_passesAll ?_ (by assumption))
    | (refine fr_X10_inside ?_ (by assumption))
    | (refine fr_X10_passes ?_ (by assumption))
    | (refine fr_X10_laysBack ?_ (by assumption))
  all_goals (intro a k q; have q2 := hP a k q; clear hP q; obtain ⟨q0_, q1_, q2_, q3_, q4_, q5_, q6_, q7_, q8_⟩ := q2)
  all_goals ((repeat' apply And.intro) <;> first | exact trivial | assumption | exact fun e => absurd e.1 (by assumption))

theorem fr_X10_note {P : Nat → Nat → Prop} {σ0 σ : mm_S} {a0 : Nat} {i1 : Int32} {i2 : Int32} {i3 : Int32} (hP : ∀ a k, P a k → a ≠ 224) (h : ko_K P σ0 σ) : ko Prod.snd P σ0 (f_X10_note a0 i1 i2 i3 σ) := by
  unfold f_X10_note
  repeat' with_reducible first
    | assumption
    | refine ko_someV ?_
    | refine ko_someR ?_
    | refine ko_ite ?_ ?_
    | refine ko_gd (fun _ => ?_)
    | refine ko_gz ?_
    | refine ko_gb ?_
    | refine ko_gq ?_
    | refine ko_gl ?_
    | refine ko_lts ?_ (fun _ _ => ?_)
    | refine ko_ltx (fun _ => ?_)
    | refine ko_bd ?_ (fun _ _ _ => ?_)
    | refine ko_bv ?_ (fun _ _ => ?_)
    | refine ko_sui (by assumption) ?_
    | refine ko_suj (by assumption) ?_
    | refine ko_suc (by assumption) ?_
    | refine ko_suw (by assumption) ?_
    | refine ko_none
    | (refine fr_X10_in ?_ (by assumption))
    | (refine fr_X10_isLodger ?_ (by assumption))
  all_goals (intro a k q; have q2 := hP a k q; clear hP q; have q0_ := q2; clear q2)
  all_goals ((repeat' apply And.intro) <;> first | exact trivial | assumption | exact fun e => absurd e.1 (by assumption))

theorem fr_X10_spot {P : Nat → Nat → Prop} {σ0 σ : mm_S} {i0 : Int32} {i1 : Int32} (hP : ∀ a k, P a k → True) (h : ko_K P σ0 σ) : ko Prod.snd P σ0 (f_X10_spot i0 i1 σ) := by
  unfold f_X10_spot
  repeat' with_reducible first
    | assumption
    | refine ko_someV ?_
    | refine ko_someR ?_
    | refine ko_ite ?_ ?_
    | refine ko_gd (fun _ => ?_)
    | refine ko_gz ?_
    | refine ko_gb ?_
    | refine ko_gq ?_
    | refine ko_gl ?_
    | refine ko_lts ?_ (fun _ _ => ?_)
    | refine ko_ltx (fun _ => ?_)
    | refine ko_bd ?_ (fun _ _ _ => ?_)
    | refine ko_bv ?_ (fun _ _ => ?_)
    | refine ko_sui (by assumption) ?_
    | refine ko_suj (by assumption) ?_
    | refine ko_suc (by assumption) ?_
    | refine ko_suw (by assumption) ?_
    | refine ko_none
  all_goals (intro a k q; have q2 := hP a k q; clear hP q)
  all_goals ((repeat' apply And.intro) <;> first | exact trivial | assumption)

theorem fr_X10_areNotesSo_2 {P : Nat → Nat → Prop} {σ0 σ : mm_S} {a0 : Nat} {i1 : Int32} {i2 : Int32} (hP : ∀ a k, P a k → True) (h : ko_K P σ0 σ) : ko Prod.snd P σ0 (f_X10_areNotesSo_2 a0 i1 i2 σ) := by
  unfold f_X10_areNotesSo_2
  refine ko_lp (fun rec hrec v τ hτ => ?_) lpN _ _ h
  repeat' with_reducible first
    | assumption
    | refine ko_someV ?_
    | refine ko_someR ?_
    | refine ko_ite ?_ ?_
    | refine ko_gd (fun _ => ?_)
    | refine ko_gz ?_
    | refine ko_gb ?_
    | refine ko_gq ?_
    | refine ko_gl ?_
    | refine ko_lts ?_ (fun _ _ => ?_)
    | refine ko_ltx (fun _ => ?_)
    | refine ko_bd ?_ (fun _ _ _ => ?_)
    | refine ko_bv ?_ (fun _ _ => ?_)
    | refine ko_sui (by assumption) ?_
    | refine ko_suj (by assumption) ?_
    | refine ko_suc (by assumption) ?_
    | refine ko_suw (by assumption) ?_
    | refine ko_none
    | (apply hrec; assumption)
    | (refine fr_X10_spot ?_ (by assumption))
  all_goals (intro a k q; have q2 := hP a k q; clear hP q)
  all_goals ((repeat' apply And.intro) <;> first | exact trivial | assumption)

theorem fr_X10_areNotesSo {P : Nat → Nat → Prop} {σ0 σ : mm_S} {a0 : Nat} {i1 : Int32} (hP : ∀ a k, P a k → True) (h : ko_K P σ0 σ) : ko Prod.snd P σ0 (f_X10_areNotesSo a0 i1 σ) := by
  unfold f_X10_areNotesSo
  repeat' with_reducible first
    | assumption
    | refine ko_someV ?_
    | refine ko_someR ?_
    | refine ko_ite ?_ ?_
    | refine ko_gd (fun _ => ?_)
    | refine ko_gz ?_
    | refine ko_gb ?_
    | refine ko_gq ?_
    | refine ko_gl ?_
    | refine ko_lts ?_ (fun _ _ => ?_)
    | refine ko_ltx (fun _ => ?_)
    | refine ko_bd ?_ (fun _ _ _ => ?_)
    | refine ko_bv ?_ (fun _ _ => ?_)
    | refine ko_sui (by assumption) ?_
    | refine ko_suj (by assumption) ?_
    | refine ko_suc (by assumption) ?_
    | refine ko_suw (by assumption) ?_
    | refine ko_none
    | (refine fr_X10_areNotesSo_2 ?_ (by assumption))
  all_goals (intro a k q; have q2 := hP a k q; clear hP q)
  all_goals ((repeat' apply And.intro) <;> first | exact trivial | assumption)

theorem fr_X10_fillsFits_32 {P : Nat → Nat → Prop} {σ0 σ : mm_S} {k11 : (Int32) → mm_S → Option (mm_S)} {a0 : Nat} {i1 : Int32} {i2 : Int32} {i3 : Int32} (hP : ∀ a k, P a k → a ≠ 234 ∧ a ≠ 235 ∧ a ≠ 224 ∧ a ≠ 226 ∧ a ≠ 227 ∧ ¬ (a = a0 ∧ k = 28) ∧ a ≠ 223 ∧ ¬ (a = a0 ∧ k = 18) ∧ a ≠ 222 ∧ ¬ (a = a0 ∧ k = 24)) (hk0 : ∀ v τ, ko_K P σ0 τ → ko id P σ0 (k11 v τ)) (h : ko_K P σ0 σ) : ko id P σ0 (f_X10_fillsFits_32 k11 a0 i1 i2 i3 σ) := by
  unfold f_X10_fillsFits_32
  refine ko_lp (fun rec hrec v τ hτ => ?_) lpN _ _ h
  repeat' with_reducible first
    | assumption
    | refine ko_someV ?_
    | refine ko_someR ?_
    | refine ko_ite ?_ ?_
    | refine ko_gd (fun _ => ?_)
    | refine ko_gz ?_
    | refine ko_gb ?_
    | refine ko_gq ?_
    | refine ko_gl ?_
    | refine ko_lts ?_ (fun _ _ => ?_)
    | refine ko_ltx (fun _ => ?_)
    | refine ko_bd ?_ (fun _ _ _ => ?_)
    | refine ko_bv ?_ (fun _ _ => ?_)
    | refine ko_sui (by assumption) ?_
    | refine ko_suj (by assumption) ?_
    | refine ko_suc (by assumption) ?_
    | refine ko_suw (by assumption) ?_
    | refine ko_none
    | (apply hk0; assumption)
    | (apply hrec; assumption)
    | (refine fr_X10_areNotesSo ?_ (by assumption))
    | (refine fr_X10_spot ?_ (by assumption))
    | (refine fr_X10_passes ?_ (by assumption))
  all_goals (intro a k q; have q2 := hP a k q; clear hP q; obtain ⟨q0_, q1_, q2_, q3_, q4_, q5_, q6_, q7_, q8_, q9_⟩ := q2)
  all_goals ((repeat' apply And.intro) <;> first | exact trivial | assumption | exact fun e => absurd e.1 (by assumption))

theorem fr_X10_fillsFits_11 {P : Nat → Nat → Prop} {σ0 σ : mm_S} {a0 : Nat} {i1 : Int32} {i2 : Int32} (hP : ∀ a k, P a k → ¬ (a = a0 ∧ k = 21) ∧ a ≠ 224 ∧ a ≠ 234 ∧ a ≠ 235 ∧ a ≠ 226 ∧ a ≠ 227 ∧ ¬ (a = a0 ∧ k = 28) ∧ a ≠ 223 ∧ ¬ (a = a0 ∧ k = 18) ∧ a ≠ 222 ∧ ¬ (a = a0 ∧ k = 24)) (h : ko_K P σ0 σ) : ko id P σ0 (f_X10_fillsFits_11 a0 i1 i2 σ) := by
  unfold f_X10_fillsFits_11
  refine ko_lp (fun rec hrec v τ hτ => ?_) lpN _ _ h
  repeat' with_reducible first
    | assumption
    | refine ko_someV ?_
    | refine ko_someR ?_
    | refine ko_ite ?_ ?_
    | refine ko_gd (fun _ => ?_)
    | refine ko_gz ?_
    | refine ko_gb ?_
    | refine ko_gq ?_
    | refine ko_gl ?_
    | refine ko_lts ?_ (fun _ _ => ?_)
    | refine ko_ltx (fun _ => ?_)
    | refine ko_bd ?_ (fun _ _ _ => ?_)
    | refine ko_bv ?_ (fun _ _ => ?_)
    | refine ko_sui (by assumption) ?_
    | refine ko_suj (by assumption) ?_
    | refine ko_suc (by assumption) ?_
    | refine ko_suw (by assumption) ?_
    | refine ko_none
    | (apply hrec; assumption)
    | (refine fr_X10_laysBack ?_ (by assumption))
    | (refine fr_X10_begins ?_ (by assumption))
    | (refine fr_X10_fillsFits_32 ?_ (by first | exact hrec) (by assumption))
  all_goals (intro a k q; have q2 := hP a k q; clear hP q; obtain ⟨q0_, q1_, q2_, q3_, q4_, q5_, q6_, q7_, q8_, q9_, q10_⟩ := q2)
  all_goals ((repeat' apply And.intro) <;> first | exact trivial | assumption | exact fun e => absurd e.1 (by assumption))

theorem fr_X10_fillsFits {P : Nat → Nat → Prop} {σ0 σ : mm_S} {a0 : Nat} (hP : ∀ a k, P a k → a ≠ 229 ∧ ¬ (a = a0 ∧ k = 21) ∧ a ≠ 224 ∧ a ≠ 234 ∧ a ≠ 235 ∧ a ≠ 226 ∧ a ≠ 227 ∧ ¬ (a = a0 ∧ k = 28) ∧ a ≠ 223 ∧ ¬ (a = a0 ∧ k = 18) ∧ a ≠ 222 ∧ ¬ (a = a0 ∧ k = 24)) (h : ko_K P σ0 σ) : ko id P σ0 (f_X10_fillsFits a0 σ) := by
  unfold f_X10_fillsFits
  repeat' with_reducible first
    | assumption
    | refine ko_someV ?_
    | refine ko_someR ?_
    | refine ko_ite ?_ ?_
    | refine ko_gd (fun _ => ?_)
    | refine ko_gz ?_
    | refine ko_gb ?_
    | refine ko_gq ?_
    | refine ko_gl ?_
    | refine ko_lts ?_ (fun _ _ => ?_)
    | refine ko_ltx (fun _ => ?_)
    | refine ko_bd ?_ (fun _ _ _ => ?_)
    | refine ko_bv ?_ (fun _ _ => ?_)
    | refine ko_sui (by assumption) ?_
    | refine ko_suj (by assumption) ?_
    | refine ko_suc (by assumption) ?_
    | refine ko_suw (by assumption) ?_
    | refine ko_none
    | (refine fr_X10_keeps ?_ (by assumption))
    | (refine fr_X10_fillsFits_11 ?_ (by assumption))
  all_goals (intro a k q; have q2 := hP a k q; clear hP q; obtain ⟨q0_, q1_, q2_, q3_, q4_, q5_, q6_, q7_, q8_, q9_, q10_, q11_⟩ := q2)
  all_goals ((repeat' apply And.intro) <;> first | exact trivial | assumption | exact fun e => absurd e.1 (by assumption))

theorem fr_X10_ruled_35 {P : Nat → Nat → Prop} {σ0 σ : mm_S} {a0 : Nat} {i1 : Int32} {i2 : Int32} {i3 : Int32} {i4 : Int32} (hP : ∀ a k, P a k → True) (h : ko_K P σ0 σ) : ko Prod.snd P σ0 (f_X10_ruled_35 a0 i1 i2 i3 i4 σ) := by
  unfold f_X10_ruled_35
  refine ko_lp (fun rec hrec v τ hτ => ?_) lpN _ _ h
  repeat' with_reducible first
    | assumption
    | refine ko_someV ?_
    | refine ko_someR ?_
    | refine ko_ite ?_ ?_
    | refine ko_gd (fun _ => ?_)
    | refine ko_gz ?_
    | refine ko_gb ?_
    | refine ko_gq ?_
    | refine ko_gl ?_
    | refine ko_lts ?_ (fun _ _ => ?_)
    | refine ko_ltx (fun _ => ?_)
    | refine ko_bd ?_ (fun _ _ _ => ?_)
    | refine ko_bv ?_ (fun _ _ => ?_)
    | refine ko_sui (by assumption) ?_
    | refine ko_suj (by assumption) ?_
    | refine ko_suc (by assumption) ?_
    | refine ko_suw (by assumption) ?_
    | refine ko_none
    | (apply hrec; assumption)
  all_goals (intro a k q; have q2 := hP a k q; clear hP q)
  all_goals ((repeat' apply And.intro) <;> first | exact trivial | assumption)

theorem fr_X10_ruled {P : Nat → Nat → Prop} {σ0 σ : mm_S} {a0 : Nat} {i1 : Int32} (hP : ∀ a k, P a k → a ≠ 229 ∧ ¬ (a = a0 ∧ k = 21) ∧ a ≠ 224 ∧ a ≠ 234 ∧ a ≠ 235 ∧ a ≠ 226 ∧ a ≠ 227 ∧ ¬ (a = a0 ∧ k = 28) ∧ a ≠ 223 ∧ ¬ (a = a0 ∧ k = 18) ∧ a ≠ 222 ∧ ¬ (a = a0 ∧ k = 24)) (h : ko_K P σ0 σ) : ko Prod.snd P σ0 (f_X10_ruled a0 i1 σ) := by
  unfold f_X10_ruled
  repeat' with_reducible first
    | assumption
    | refine ko_someV ?_
    | refine ko_someR ?_
    | refine ko_ite ?_ ?_
    | refine ko_gd (fun _ => ?_)
    | refine ko_gz ?_
    | refine ko_gb ?_
    | refine ko_gq ?_
    | refine ko_gl ?_
    | refine ko_lts ?_ (fun _ _ => ?_)
    | refine ko_ltx (fun _ => ?_)
    | refine ko_bd ?_ (fun _ _ _ => ?_)
    | refine ko_bv ?_ (fun _ _ => ?_)
    | refine ko_sui (by assumption) ?_
    | refine ko_suj (by assumption) ?_
    | refine ko_suc (by assumption) ?_
    | refine ko_suw (by assumption) ?_
    | refine ko_none
    | (refine fr_X10_isHouse ?_ (by assumption))
    | (refine fr_X10_in ?_ (by assumption))
    | (refine fr_X10_fillsFits ?_ (by assumption))
    | (refine fr_X10_ruled_35 ?_ (by assumption))
  all_goals (intro a k q; have q2 := hP a k q; clear hP q; obtain ⟨q0_, q1_, q2_, q3_, q4_, q5_, q6_, q7_, q8_, q9_, q10_, q11_⟩ := q2)
  all_goals ((repeat' apply And.intro) <;> first | exact trivial | assumption | exact fun e => absurd e.1 (by assumption))

theorem fr_X10_alikeAt_86 {P : Nat → Nat → Prop} {σ0 σ : mm_S} {k4 : (Int32 × Int32) → mm_S → Option (Int32 × mm_S)} {a0 : Nat} {i1 : Int32} {i2 : Int32} {i3 : Int32} {i4 : Int32} (hP : ∀ a k, P a k → True) (hk0 : ∀ v τ, ko_K P σ0 τ → ko Prod.snd P σ0 (k4 v τ)) (h : ko_K P σ0 σ) : ko Prod.snd P σ0 (f_X10_alikeAt_86 k4 a0 i1 i2 i3 i4 σ) := by
  unfold f_X10_alikeAt_86
  repeat' with_reducible first
    | assumption
    | refine ko_someV ?_
    | refine ko_someR ?_
    | refine ko_ite ?_ ?_
    | refine ko_gd (fun _ => ?_)
    | refine ko_gz ?_
    | refine ko_gb ?_
    | refine ko_gq ?_
    | refine ko_gl ?_
    | refine ko_lts ?_ (fun _ _ => ?_)
    | refine ko_ltx (fun _ => ?_)
    | refine ko_bd ?_ (fun _ _ _ => ?_)
    | refine ko_bv ?_ (fun _ _ => ?_)
    | refine ko_sui (by assumption) ?_
    | refine ko_suj (by assumption) ?_
    | refine ko_suc (by assumption) ?_
    | refine ko_suw (by assumption) ?_
    | refine ko_none
    | (apply hk0; assumption)
  all_goals (intro a k q; have q2 := hP a k q; clear hP q)
  all_goals ((repeat' apply And.intro) <;> first | exact trivial | assumption)

theorem fr_X10_alikeAt_76 {P : Nat → Nat → Prop} {σ0 σ : mm_S} {k4 : (Int32 × Int32) → mm_S → Option (Int32 × mm_S)} {k18 : (Int32 × Int32) → mm_S → Option (Int32 × mm_S)} {a0 : Nat} {i1 : Int32} {i2 : Int32} {i3 : Int32} {i5 : Int32} {s0 : Int32} (hP : ∀ a k, P a k → True) (hk0 : ∀ v τ, ko_K P σ0 τ → ko Prod.snd P σ0 (k4 v τ)) (hk1 : ∀ v τ, ko_K P σ0 τ → ko Prod.snd P σ0 (k18 v τ)) (h : ko_K P σ0 σ) : ko Prod.snd P σ0 (f_X10_alikeAt_76 k4 k18 a0 i1 i2 i3 i5 s0 σ) := by
  unfold f_X10_alikeAt_76
  repeat' with_reducible first
    | assumption
    | refine ko_someV ?_
    | refine ko_someR ?_
    | refine ko_ite ?_ ?_
    | refine ko_gd (fun _ => ?_)
    | refine ko_gz ?_
    | refine ko_gb ?_
    | refine ko_gq ?_
    | refine ko_gl ?_
    | refine ko_lts ?_ (fun _ _ => ?_)
    | refine ko_ltx (fun _ => ?_)
    | refine ko_bd ?_ (fun _ _ _ => ?_)
    | refine ko_bv ?_ (fun _ _ => ?_)
    | refine ko_sui (by assumption) ?_
    | refine ko_suj (by assumption) ?_
    | refine ko_suc (by assumption) ?_
    | refine ko_suw (by assumption) ?_
    | refine ko_none
    | (apply hk0; assumption)
    | (apply hk1; assumption)
  all_goals (intro a k q; have q2 := hP a k q; clear hP q)
  all_goals ((repeat' apply And.intro) <;> first | exact trivial | assumption)

theorem fr_X10_alikeAt_18 {P : Nat → Nat → Prop} {σ0 σ : mm_S} {k4 : (Int32 × Int32) → mm_S → Option (Int32 × mm_S)} {a0 : Nat} {i1 : Int32} {i2 : Int32} {i3 : Int32} {i4 : Int32} {i5 : Int32} (hP : ∀ a k, P a k → True) (hk0 : ∀ v τ, ko_K P σ0 τ → ko Prod.snd P σ0 (k4 v τ)) (h : ko_K P σ0 σ) : ko Prod.snd P σ0 (f_X10_alikeAt_18 k4 a0 i1 i2 i3 i4 i5 σ) := by
  unfold f_X10_alikeAt_18
  refine ko_lp (fun rec hrec v τ hτ => ?_) lpN _ _ h
  repeat' with_reducible first
    | assumption
    | refine ko_someV ?_
    | refine ko_someR ?_
    | refine ko_ite ?_ ?_
    | refine ko_gd (fun _ => ?_)
    | refine ko_gz ?_
    | refine ko_gb ?_
    | refine ko_gq ?_
    | refine ko_gl ?_
    | refine ko_lts ?_ (fun _ _ => ?_)
    | refine ko_ltx (fun _ => ?_)
    | refine ko_bd ?_ (fun _ _ _ => ?_)
    | refine ko_bv ?_ (fun _ _ => ?_)
    | refine ko_sui (by assumption) ?_
    | refine ko_suj (by assumption) ?_
    | refine ko_suc (by assumption) ?_
    | refine ko_suw (by assumption) ?_
    | refine ko_none
    | (apply hk0; assumption)
    | (apply hrec; assumption)
    | (refine fr_X10_alikeAt_86 ?_ (by first | exact hrec | exact hk0) (by assumption))
    | (refine fr_X10_alikeAt_76 ?_ (by first | exact hrec | exact hk0) (by first | exact hrec | exact hk0) (by assumption))
    | (refine fr_X10_spot ?_ (by assumption))
  all_goals (intro a k q; have q2 := hP a k q; clear hP q)
  all_goals ((repeat' apply And.intro) <;> first | exact trivial | assumption)

theorem fr_X10_alikeAt_4 {P : Nat → Nat → Prop} {σ0 σ : mm_S} {a0 : Nat} {i1 : Int32} {i2 : Int32} {i3 : Int32} (hP : ∀ a k, P a k → True) (h : ko_K P σ0 σ) : ko Prod.snd P σ0 (f_X10_alikeAt_4 a0 i1 i2 i3 σ) := by
  unfold f_X10_alikeAt_4
  refine ko_lp (fun rec hrec v τ hτ => ?_) lpN _ _ h
  repeat' with_reducible first
    | assumption
    | refine ko_someV ?_
    | refine ko_someR ?_
    | refine ko_ite ?_ ?_
    | refine ko_gd (fun _ => ?_)
    | refine ko_gz ?_
    | refine ko_gb ?_
    | refine ko_gq ?_
    | refine ko_gl ?_
    | refine ko_lts ?_ (fun _ _ => ?_)
    | refine ko_ltx (fun _ => ?_)
    | refine ko_bd ?_ (fun _ _ _ => ?_)
    | refine ko_bv ?_ (fun _ _ => ?_)
    | refine ko_sui (by assumption) ?_
    | refine ko_suj (by assumption) ?_
    | refine ko_suc (by assumption) ?_
    | refine ko_suw (by assumption) ?_
    | refine ko_none
    | (apply hrec; assumption)
    | (refine fr_X10_alikeAt_18 ?_ (by first | exact hrec) (by assumption))
  all_goals (intro a k q; have q2 := hP a k q; clear hP q)
  all_goals ((repeat' apply And.intro) <;> first | exact trivial | assumption)

theorem fr_X10_alikeAt {P : Nat → Nat → Prop} {σ0 σ : mm_S} {a0 : Nat} {i1 : Int32} (hP : ∀ a k, P a k → True) (h : ko_K P σ0 σ) : ko Prod.snd P σ0 (f_X10_alikeAt a0 i1 σ) := by
  unfold f_X10_alikeAt
  repeat' with_reducible first
    | assumption
    | refine ko_someV ?_
    | refine ko_someR ?_
    | refine ko_ite ?_ ?_
    | refine ko_gd (fun _ => ?_)
    | refine ko_gz ?_
    | refine ko_gb ?_
    | refine ko_gq ?_
    | refine ko_gl ?_
    | refine ko_lts ?_ (fun _ _ => ?_)
    | refine ko_ltx (fun _ => ?_)
    | refine ko_bd ?_ (fun _ _ _ => ?_)
    | refine ko_bv ?_ (fun _ _ => ?_)
    | refine ko_sui (by assumption) ?_
    | refine ko_suj (by assumption) ?_
    | refine ko_suc (by assumption) ?_
    | refine ko_suw (by assumption) ?_
    | refine ko_none
    | (refine fr_X10_alikeAt_4 ?_ (by assumption))
  all_goals (intro a k q; have q2 := hP a k q; clear hP q)
  all_goals ((repeat' apply And.intro) <;> first | exact trivial | assumption)

theorem fr_X10_look_27 {P : Nat → Nat → Prop} {σ0 σ : mm_S} {a0 : Nat} {i1 : Int32} {i2 : Int32} {i3 : Int32} (hP : ∀ a k, P a k → True) (h : ko_K P σ0 σ) : ko Prod.snd P σ0 (f_X10_look_27 a0 i1 i2 i3 σ) := by
  unfold f_X10_look_27
  refine ko_lp (fun rec hrec v τ hτ => ?_) lpN _ _ h
  repeat' with_reducible first
    | assumption
    | refine ko_someV ?_
    | refine ko_someR ?_
    | refine ko_ite ?_ ?_
    | refine ko_gd (fun _ => ?_)
    | refine ko_gz ?_
    | refine ko_gb ?_
    | refine ko_gq ?_
    | refine ko_gl ?_
    | refine ko_lts ?_ (fun _ _ => ?_)
    | refine ko_ltx (fun _ => ?_)
    | refine ko_bd ?_ (fun _ _ _ => ?_)
    | refine ko_bv ?_ (fun _ _ => ?_)
    | refine ko_sui (by assumption) ?_
    | refine ko_suj (by assumption) ?_
    | refine ko_suc (by assumption) ?_
    | refine ko_suw (by assumption) ?_
    | refine ko_none
    | (apply hrec; assumption)
    | (refine fr_X10_alikeAt ?_ (by assumption))
  all_goals (intro a k q; have q2 := hP a k q; clear hP q)
  all_goals ((repeat' apply And.intro) <;> first | exact trivial | assumption)

theorem fr_X10_look {P : Nat → Nat → Prop} {σ0 σ : mm_S} {a0 : Nat} {i1 : Int32} (hP : ∀ a k, P a k → a ≠ 229 ∧ ¬ (a = a0 ∧ k = 21) ∧ a ≠ 224 ∧ a ≠ 234 ∧ a ≠ 235 ∧ a ≠ 226 ∧ a ≠ 227 ∧ ¬ (a = a0 ∧ k = 28) ∧ a ≠ 223 ∧ ¬ (a = a0 ∧ k = 18) ∧ a ≠ 222 ∧ ¬ (a = a0 ∧ k = 24)) (h : ko_K P σ0 σ) : ko Prod.snd P σ0 (f_X10_look a0 i1 σ) := by
  unfold f_X10_look
  repeat' with_reducible first
    | assumption
    | refine ko_someV ?_
    | refine ko_someR ?_
    | refine ko_ite ?_ ?_
    | refine ko_gd (fun _ => ?_)
    | refine ko_gz ?_
    | refine ko_gb ?_
    | refine ko_gq ?_
    | refine ko_gl ?_
    | refine ko_lts ?_ (fun _ _ => ?_)
    | refine ko_ltx (fun _ => ?_)
    | refine ko_bd ?_ (fun _ _ _ => ?_)
    | refine ko_bv ?_ (fun _ _ => ?_)
    | refine ko_sui (by assumption) ?_
    | refine ko_suj (by assumption) ?_
    | refine ko_suc (by assumption) ?_
    | refine ko_suw (by assumption) ?_
    | refine ko_none
    | (refine fr_X10_isHouse ?_ (by assumption))
    | (refine fr_X10_in ?_ (by assumption))
    | (refine fr_X10_fillsFits ?_ (by assumption))
    | (refine fr_X10_look_27 ?_ (by assumption))
  all_goals (intro a k q; have q2 := hP a k q; clear hP q; obtain ⟨q0_, q1_, q2_, q3_, q4_, q5_, q6_, q7_, q8_, q9_, q10_, q11_⟩ := q2)
  all_goals ((repeat' apply And.intro) <;> first | exact trivial | assumption | exact fun e => absurd e.1 (by assumption))

theorem fr_X10_seed {P : Nat → Nat → Prop} {σ0 σ : mm_S} {a0 : Nat} {i1 : Int32} (hP : ∀ a k, P a k → ¬ (a = a0 ∧ k = 22)) (h : ko_K P σ0 σ) : ko Prod.snd P σ0 (f_X10_seed a0 i1 σ) := by
  unfold f_X10_seed
  repeat' with_reducible first
    | assumption
    | refine ko_someV ?_
    | refine ko_someR ?_
    | refine ko_ite ?_ ?_
    | refine ko_gd (fun _ => ?_)
    | refine ko_gz ?_
    | refine ko_gb ?_
    | refine ko_gq ?_
    | refine ko_gl ?_
    | refine ko_lts ?_ (fun _ _ => ?_)
    | refine ko_ltx (fun _ => ?_)
    | refine ko_bd ?_ (fun _ _ _ => ?_)
    | refine ko_bv ?_ (fun _ _ => ?_)
    | refine ko_sui (by assumption) ?_
    | refine ko_suj (by assumption) ?_
    | refine ko_suc (by assumption) ?_
    | refine ko_suw (by assumption) ?_
    | refine ko_none
  all_goals (intro a k q; have q2 := hP a k q; clear hP q; have q0_ := q2; clear q2)
  all_goals ((repeat' apply And.intro) <;> first | exact trivial | assumption | exact fun e => absurd e.1 (by assumption))

theorem fr_X10_draw {P : Nat → Nat → Prop} {σ0 σ : mm_S} {a0 : Nat} {i1 : Int32} (hP : ∀ a k, P a k → ¬ (a = a0 ∧ k = 41)) (h : ko_K P σ0 σ) : ko Prod.snd P σ0 (f_X10_draw a0 i1 σ) := by
  unfold f_X10_draw
  repeat' with_reducible first
    | assumption
    | refine ko_someV ?_
    | refine ko_someR ?_
    | refine ko_ite ?_ ?_
    | refine ko_gd (fun _ => ?_)
    | refine ko_gz ?_
    | refine ko_gb ?_
    | refine ko_gq ?_
    | refine ko_gl ?_
    | refine ko_lts ?_ (fun _ _ => ?_)
    | refine ko_ltx (fun _ => ?_)
    | refine ko_bd ?_ (fun _ _ _ => ?_)
    | refine ko_bv ?_ (fun _ _ => ?_)
    | refine ko_sui (by assumption) ?_
    | refine ko_suj (by assumption) ?_
    | refine ko_suc (by assumption) ?_
    | refine ko_suw (by assumption) ?_
    | refine ko_none
  all_goals (intro a k q; have q2 := hP a k q; clear hP q; have q0_ := q2; clear q2)
  all_goals ((repeat' apply And.intro) <;> first | exact trivial | assumption | exact fun e => absurd e.1 (by assumption))

theorem fr_X10_strangers_132 {P : Nat → Nat → Prop} {σ0 σ : mm_S} {k84 : (Int32 × Int32 × Int32) → mm_S → Option (Int32 × mm_S)} {k93 : (Int32) → mm_S → Option (Int32 × mm_S)} {a0 : Nat} {i1 : Int32} {i2 : Int32} {i3 : Int32} {i4 : Int32} {i5 : Int32} {i6 : Int32} {i7 : Int32} {i8 : Int32} {i9 : Int32} (hP : ∀ a k, P a k → a ≠ 224 ∧ a ≠ 226 ∧ a ≠ 227 ∧ ¬ (a = a0 ∧ k = 28) ∧ a ≠ 223 ∧ ¬ (a = a0 ∧ k = 18) ∧ a ≠ 222 ∧ ¬ (a = a0 ∧ k = 24)) (hk0 : ∀ v τ, ko_K P σ0 τ → ko Prod.snd P σ0 (k84 v τ)) (hk1 : ∀ v τ, ko_K P σ0 τ → ko Prod.snd P σ0 (k93 v τ)) (h : ko_K P σ0 σ) : ko Prod.snd P σ0 (f_X10_strangers_132 k84 k93 a0 i1 i2 i3 i4 i5 i6 i7 i8 i9 σ) := by
  unfold f_X10_strangers_132
  repeat' with_reducible first
    | assumption
    | refine ko_someV ?_
    | refine ko_someR ?_
    | refine ko_ite ?_ ?_
    | refine ko_gd (fun _ => ?_)
    | refine ko_gz ?_
    | refine ko_gb ?_
    | refine ko_gq ?_
    | refine ko_gl ?_
    | refine ko_lts ?_ (fun _ _ => ?_)
    | refine ko_ltx (fun _ => ?_)
    | refine ko_bd ?_ (fun _ _ _ => ?_)
    | refine ko_bv ?_ (fun _ _ => ?_)
    | refine ko_sui (by assumption) ?_
    | refine ko_suj (by assumption) ?_
    | refine ko_suc (by assumption) ?_
    | refine ko_suw (by assumption) ?_
    | refine ko_none
    | (apply hk0; assumption)
    | (apply hk1; assumption)
    | (refine fr_X10_passes ?_ (by assumption))
  all_goals (intro a k q; have q2 := hP a k q; clear hP q; obtain ⟨q0_, q1_, q2_, q3_, q4_, q5_, q6_, q7_⟩ := q2)
  all_goals ((repeat' apply And.intro) <;> first | exact trivial | assumption | exact fun e => absurd e.1 (by assumption))

theorem fr_X10_strangers_93 {P : Nat → Nat → Prop} {σ0 σ : mm_S} {k84 : (Int32 × Int32 × Int32) → mm_S → Option (Int32 × mm_S)} {a0 : Nat} {i1 : Int32} {i2 : Int32} {i3 : Int32} {i4 : Int32} {i5 : Int32} {i6 : Int32} {i7 : Int32} {i8 : Int32} {i9 : Int32} (hP : ∀ a k, P a k → ¬ (a = a0 ∧ k = 24) ∧ a ≠ 224 ∧ ¬ (a = a0 ∧ k = 41) ∧ a ≠ 226 ∧ a ≠ 227 ∧ ¬ (a = a0 ∧ k = 28) ∧ a ≠ 223 ∧ ¬ (a = a0 ∧ k = 18) ∧ a ≠ 222) (hk0 : ∀ v τ, ko_K P σ0 τ → ko Prod.snd P σ0 (k84 v τ)) (h : ko_K P σ0 σ) : ko Prod.snd P σ0 (f_X10_strangers_93 k84 a0 i1 i2 i3 i4 i5 i6 i7 i8 i9 σ) := by
  unfold f_X10_strangers_93
  refine ko_lp (fun rec hrec v τ hτ => ?_) lpN _ _ h
  repeat' with_reducible first
    | assumption
    | refine ko_someV ?_
    | refine ko_someR ?_
    | refine ko_ite ?_ ?_
    | refine ko_gd (fun _ => ?_)
    | refine ko_gz ?_
    | refine ko_gb ?_
    | refine ko_gq ?_
    | refine ko_gl ?_
    | refine ko_lts ?_ (fun _ _ => ?_)
    | refine ko_ltx (fun _ => ?_)
    | refine ko_bd ?_ (fun _ _ _ => ?_)
    | refine ko_bv ?_ (fun _ _ => ?_)
    | refine ko_sui (by assumption) ?_
    | refine ko_suj (by assumption) ?_
    | refine ko_suc (by assumption) ?_
    | refine ko_suw (by assumption) ?_
    | refine ko_none
    | (apply hk0; assumption)
    | (apply hrec; assumption)
    | (refine fr_X10_sleptAll ?_ (by assumption))
    | (refine fr_X10_tiredAll ?_ (by assumption))
    | (refine fr_X10_laysBack ?_ (by assumption))
    | (refine fr_X10_draw ?_ (by assumption))
    | (refine fr_X10_strangers_132 ?_ (by first | exact hrec | exact hk0) (by first | exact hrec | exact hk0) (by assumption))
  all_goals (intro a k q; have q2 := hP a k q; clear hP q; obtain ⟨q0_, q1_, q2_, q3_, q4_, q5_, q6_, q7_, q8_⟩ := q2)
  all_goals ((repeat' apply And.intro) <;> first | exact trivial | assumption | exact fun e => absurd e.1 (by assumption))

theorem fr_X10_strangers_84 {P : Nat → Nat → Prop} {σ0 σ : mm_S} {a0 : Nat} {i1 : Int32} {i2 : Int32} {i3 : Int32} {i4 : Int32} {i5 : Int32} {i6 : Int32} {i7 : Int32} {i8 : Int32} (hP : ∀ a k, P a k → ¬ (a = a0 ∧ k = 24) ∧ a ≠ 224 ∧ ¬ (a = a0 ∧ k = 41) ∧ a ≠ 226 ∧ a ≠ 227 ∧ ¬ (a = a0 ∧ k = 28) ∧ a ≠ 223 ∧ ¬ (a = a0 ∧ k = 18) ∧ a ≠ 222) (h : ko_K P σ0 σ) : ko Prod.snd P σ0 (f_X10_strangers_84 a0 i1 i2 i3 i4 i5 i6 i7 i8 σ) := by
  unfold f_X10_strangers_84
  refine ko_lp (fun rec hrec v τ hτ => ?_) lpN _ _ h
  repeat' with_reducible first
    | assumption
    | refine ko_someV ?_
    | refine ko_someR ?_
    | refine ko_ite ?_ ?_
    | refine ko_gd (fun _ => ?_)
    | refine ko_gz ?_
    | refine ko_gb ?_
    | refine ko_gq ?_
    | refine ko_gl ?_
    | refine ko_lts ?_ (fun _ _ => ?_)
    | refine ko_ltx (fun _ => ?_)
    | refine ko_bd ?_ (fun _ _ _ => ?_)
    | refine ko_bv ?_ (fun _ _ => ?_)
    | refine ko_sui (by assumption) ?_
    | refine ko_suj (by assumption) ?_
    | refine ko_suc (by assumption) ?_
    | refine ko_suw (by assumption) ?_
    | refine ko_none
    | (apply hrec; assumption)
    | (refine fr_X10_strangers_93 ?_ (by first | exact hrec) (by assumption))
  all_goals (intro a k q; have q2 := hP a k q; clear hP q; obtain ⟨q0_, q1_, q2_, q3_, q4_, q5_, q6_, q7_, q8_⟩ := q2)
  all_goals ((repeat' apply And.intro) <;> first | exact trivial | assumption | exact fun e => absurd e.1 (by assumption))

theorem fr_X10_strangers {P : Nat → Nat → Prop} {σ0 σ : mm_S} {a0 : Nat} {i1 : Int32} {i2 : Int32} {i3 : Int32} {i4 : Int32} (hP : ∀ a k, P a k → ¬ (a = a0 ∧ k = 41) ∧ a ≠ 229 ∧ ¬ (a = a0 ∧ k = 24) ∧ a ≠ 224 ∧ a ≠ 226 ∧ a ≠ 227 ∧ ¬ (a = a0 ∧ k = 28) ∧ a ≠ 223 ∧ ¬ (a = a0 ∧ k = 18) ∧ a ≠ 222) (h : ko_K P σ0 σ) : ko Prod.snd P σ0 (f_X10_strangers a0 i1 i2 i3 i4 σ) := by
  unfold f_X10_strangers
  repeat' with_reducible first
    | assumption
    | refine ko_someV ?_
    | refine ko_someR ?_
    | refine ko_ite ?_ ?_
    | refine ko_gd (fun _ => ?_)
    | refine ko_gz ?_
    | refine ko_gb ?_
    | refine ko_gq ?_
    | refine ko_gl ?_
    | refine ko_lts ?_ (fun _ _ => ?_)
    | refine ko_ltx (fun _ => ?_)
    | refine ko_bd ?_ (fun _ _ _ => ?_)
    | refine ko_bv ?_ (fun _ _ => ?_)
    | refine ko_sui (by assumption) ?_
    | refine ko_suj (by assumption) ?_
    | refine ko_suc (by assumption) ?_
    | refine ko_suw (by assumption) ?_
    | refine ko_none
    | (refine fr_X10_isHouse ?_ (by assumption))
    | (refine fr_X10_in ?_ (by assumption))
    | (refine fr_X10_sleptAll ?_ (by assumption))
    | (refine fr_X10_keeps ?_ (by assumption))
    | (refine fr_X10_strangers_84 ?_ (by assumption))
  all_goals (intro a k q; have q2 := hP a k q; clear hP q; obtain ⟨q0_, q1_, q2_, q3_, q4_, q5_, q6_, q7_, q8_, q9_⟩ := q2)
  all_goals ((repeat' apply And.intro) <;> first | exact trivial | assumption | exact fun e => absurd e.1 (by assumption))

theorem fr_X10_count {P : Nat → Nat → Prop} {σ0 σ : mm_S} {a0 : Nat} {i1 : Int32} (hP : ∀ a k, P a k → True) (h : ko_K P σ0 σ) : ko Prod.snd P σ0 (f_X10_count a0 i1 σ) := by
  unfold f_X10_count
  repeat' with_reducible first
    | assumption
    | refine ko_someV ?_
    | refine ko_someR ?_
    | refine ko_ite ?_ ?_
    | refine ko_gd (fun _ => ?_)
    | refine ko_gz ?_
    | refine ko_gb ?_
    | refine ko_gq ?_
    | refine ko_gl ?_
    | refine ko_lts ?_ (fun _ _ => ?_)
    | refine ko_ltx (fun _ => ?_)
    | refine ko_bd ?_ (fun _ _ _ => ?_)
    | refine ko_bv ?_ (fun _ _ => ?_)
    | refine ko_sui (by assumption) ?_
    | refine ko_suj (by assumption) ?_
    | refine ko_suc (by assumption) ?_
    | refine ko_suw (by assumption) ?_
    | refine ko_none
    | (refine fr_X10_inside ?_ (by assumption))
    | (refine fr_X10_isCounted ?_ (by assumption))
    | (refine fr_X10_tiredAll ?_ (by assumption))
    | (refine fr_X10_sleptAll ?_ (by assumption))
  all_goals (intro a k q; have q2 := hP a k q; clear hP q)
  all_goals ((repeat' apply And.intro) <;> first | exact trivial | assumption)

theorem fr_X10_image_43 {P : Nat → Nat → Prop} {σ0 σ : mm_S} {a0 : Nat} {i1 : Int32} {i2 : Int32} (hP : ∀ a k, P a k → a ≠ 236) (h : ko_K P σ0 σ) : ko Prod.snd P σ0 (f_X10_image_43 a0 i1 i2 σ) := by
  unfold f_X10_image_43
  refine ko_lp (fun rec hrec v τ hτ => ?_) lpN _ _ h
  repeat' with_reducible first
    | assumption
    | refine ko_someV ?_
    | refine ko_someR ?_
    | refine ko_ite ?_ ?_
    | refine ko_gd (fun _ => ?_)
    | refine ko_gz ?_
    | refine ko_gb ?_
    | refine ko_gq ?_
    | refine ko_gl ?_
    | refine ko_lts ?_ (fun _ _ => ?_)
    | refine ko_ltx (fun _ => ?_)
    | refine ko_bd ?_ (fun _ _ _ => ?_)
    | refine ko_bv ?_ (fun _ _ => ?_)
    | refine ko_sui (by assumption) ?_
    | refine ko_suj (by assumption) ?_
    | refine ko_suc (by assumption) ?_
    | refine ko_suw (by assumption) ?_
    | refine ko_none
    | (apply hrec; assumption)
  all_goals (intro a k q; have q2 := hP a k q; clear hP q; have q0_ := q2; clear q2)
  all_goals ((repeat' apply And.intro) <;> first | exact trivial | assumption | exact fun e => absurd e.1 (by assumption))

theorem fr_X10_image {P : Nat → Nat → Prop} {σ0 σ : mm_S} {a0 : Nat} {i1 : Int32} (hP : ∀ a k, P a k → a ≠ 239 ∧ a ≠ 237 ∧ a ≠ 238 ∧ a ≠ 236) (h : ko_K P σ0 σ) : ko Prod.snd P σ0 (f_X10_image a0 i1 σ) := by
  unfold f_X10_image
  repeat' with_reducible first
    | assumption
    | refine ko_someV ?_
    | refine ko_someR ?_
    | refine ko_ite ?_ ?_
    | refine ko_gd (fun _ => ?_)
    | refine ko_gz ?_
    | refine ko_gb ?_
    | refine ko_gq ?_
    | refine ko_gl ?_
    | refine ko_lts ?_ (fun _ _ => ?_)
    | refine ko_ltx (fun _ => ?_)
    | refine ko_bd ?_ (fun _ _ _ => ?_)
    | refine ko_bv ?_ (fun _ _ => ?_)
    | refine ko_sui (by assumption) ?_
    | refine ko_suj (by assumption) ?_
    | refine ko_suc (by assumption) ?_
    | refine ko_suw (by assumption) ?_
    | refine ko_none
    | (refine fr_X10_in ?_ (by assumption))
    | (refine fr_X10_image_43 ?_ (by assumption))
  all_goals (intro a k q; have q2 := hP a k q; clear hP q; obtain ⟨q0_, q1_, q2_, q3_⟩ := q2)
  all_goals ((repeat' apply And.intro) <;> first | exact trivial | assumption | exact fun e => absurd e.1 (by assumption))

theorem fr_X10_back_50 {P : Nat → Nat → Prop} {σ0 σ : mm_S} {a0 : Nat} {i1 : Int32} {i2 : Int32} (hP : ∀ a k, P a k → a ≠ 224) (h : ko_K P σ0 σ) : ko Prod.snd P σ0 (f_X10_back_50 a0 i1 i2 σ) := by
  unfold f_X10_back_50
  refine ko_lp (fun rec hrec v τ hτ => ?_) lpN _ _ h
  repeat' with_reducible first
    | assumption
    | refine ko_someV ?_
    | refine ko_someR ?_
    | refine ko_ite ?_ ?_
    | refine ko_gd (fun _ => ?_)
    | refine ko_gz ?_
    | refine ko_gb ?_
    | refine ko_gq ?_
    | refine ko_gl ?_
    | refine ko_lts ?_ (fun _ _ => ?_)
    | refine ko_ltx (fun _ => ?_)
    | refine ko_bd ?_ (fun _ _ _ => ?_)
    | refine ko_bv ?_ (fun _ _ => ?_)
    | refine ko_sui (by assumption) ?_
    | refine ko_suj (by assumption) ?_
    | refine ko_suc (by assumption) ?_
    | refine ko_suw (by assumption) ?_
    | refine ko_none
    | (apply hrec; assumption)
  all_goals (intro a k q; have q2 := hP a k q; clear hP q; have q0_ := q2; clear q2)
  all_goals ((repeat' apply And.intro) <;> first | exact trivial | assumption | exact fun e => absurd e.1 (by assumption))

theorem fr_X10_back {P : Nat → Nat → Prop} {σ0 σ : mm_S} {a0 : Nat} {i1 : Int32} (hP : ∀ a k, P a k → ¬ (a = a0 ∧ k = 21) ∧ ¬ (a = a0 ∧ k = 22) ∧ ¬ (a = a0 ∧ k = 31) ∧ a ≠ 224) (h : ko_K P σ0 σ) : ko Prod.snd P σ0 (f_X10_back a0 i1 σ) := by
  unfold f_X10_back
  repeat' with_reducible first
    | assumption
    | refine ko_someV ?_
    | refine ko_someR ?_
    | refine ko_ite ?_ ?_
    | refine ko_gd (fun _ => ?_)
    | refine ko_gz ?_
    | refine ko_gb ?_
    | refine ko_gq ?_
    | refine ko_gl ?_
    | refine ko_lts ?_ (fun _ _ => ?_)
    | refine ko_ltx (fun _ => ?_)
    | refine ko_bd ?_ (fun _ _ _ => ?_)
    | refine ko_bv ?_ (fun _ _ => ?_)
    | refine ko_sui (by assumption) ?_
    | refine ko_suj (by assumption) ?_
    | refine ko_suc (by assumption) ?_
    | refine ko_suw (by assumption) ?_
    | refine ko_none
    | (refine fr_X10_in ?_ (by assumption))
    | (refine fr_X10_back_50 ?_ (by assumption))
  all_goals (intro a k q; have q2 := hP a k q; clear hP q; obtain ⟨q0_, q1_, q2_, q3_⟩ := q2)
  all_goals ((repeat' apply And.intro) <;> first | exact trivial | assumption | exact fun e => absurd e.1 (by assumption))
