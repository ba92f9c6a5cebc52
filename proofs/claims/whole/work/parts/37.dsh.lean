/-! the start -/
set_option maxRecDepth 100000 in
theorem ini_f1 : ini_s.1 1 1 = 0 ∧ ini_s.1 214 1 = 0 ∧ ini_s.1 214 23 = -1 ∧ ini_s.1 214 24 = -1 ∧ ini_s.1 214 25 = 0 ∧ ini_s.1 0 4 = 0 ∧ ini_s.1 214 2 = 0 := by decide +kernel
set_option maxRecDepth 100000 in
theorem ini_f2 : ini_s.1 12 1 = 2 ∧ ini_s.1 13 0 = 3 ∧ ini_s.1 13 1 = 33 ∧ ini_s.1 98 1 = 0 ∧ ini_s.1 98 2 = 0 ∧ ini_s.1 214 31 = 0 := by decide +kernel
set_option maxRecDepth 100000 in
theorem ini_f3 : ∀ k, k < 5 → ini_s.1 27 k = 0 := by decide +kernel
set_option maxRecDepth 100000 in
theorem ini_f4 : ∀ l, l < 6 → ini_s.1 28 l = 0 ∧ ini_s.1 29 l = 0 ∧ ini_s.1 32 l = 0 ∧ ini_s.1 33 l = 0 ∧ ini_s.1 34 l = -1 ∧ ini_s.1 35 l = 0 := by decide +kernel
set_option maxRecDepth 100000 in
theorem ini_f5 : (∀ l, l < 36 → ini_s.1 30 l = 0) ∧ ini_s.1 31 0 = 0 ∧ ini_s.1 31 1 = 0 ∧ ini_s.1 36 0 = 0 ∧ ini_s.1 26 3 = -1 ∧ ini_s.1 26 4 = 0 ∧ ini_s.1 214 21 = -1 ∧ ini_s.1 214 22 = 0 := by decide +kernel
set_option maxRecDepth 100000 in
theorem ini_f6 : ∀ k, k < 121 → ini_s.1 224 k = 0 := by decide +kernel
set_option maxRecDepth 100000 in
theorem ini_f7 : ∀ k, k < 4 → ini_s.1 239 k = 0 ∧ ini_s.1 97 k = 0 := by decide +kernel
