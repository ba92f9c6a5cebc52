def mu_0 : mm_M := (fun _ _ => 0, fun _ _ => 0, fun _ _ => none, 0)
def ini_x : mm_M := (fD_X9_init 0 (mu_n mu_0)).getD mu_0
def ini_m : mm_M := (fD_X10_init 214 (mu_n ini_x)).getD mu_0
def ini_s : mm_S := (mi ini_m, mj ini_m, 12)
theorem op_getD {α : Type} {x : Option α} {d : α} (h : x.isSome = true) : x = some (x.getD d) := by
  cases x with
  | none => cases h
  | some a => rfl
set_option maxRecDepth 100000 in
theorem ini_x_eq : fD_X9_init 0 (mu_n mu_0) = some ini_x := op_getD (by decide +kernel)
set_option maxRecDepth 100000 in
theorem ini_m_eq : fD_X10_init 214 (mu_n ini_x) = some ini_m := op_getD (by decide +kernel)
set_option maxRecDepth 100000 in
theorem ini_x_n : mn ini_x = 214 := by decide +kernel
set_option maxRecDepth 100000 in
theorem ini_m_n : mn ini_m = 240 := by decide +kernel
set_option maxRecDepth 100000 in
theorem ini_r1 : ∀ i, i < 240 → (mm_K i).1 < 11 → ∀ k, k < mm_nf (mm_K i).1 → mm_fk (mm_K i).1 k = 2 → mr ini_m i k = mm_Rst 12 i k := by decide +kernel
set_option maxRecDepth 100000 in
theorem ini_r2 : ∀ i, i < 240 → 15 ≤ (mm_K i).1 → ∀ k, k < (mm_K i).2 → mr ini_m i k = mm_Rst 12 i k := by decide +kernel
