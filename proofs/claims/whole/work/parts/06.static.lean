/-! BEHIND THE CONSTRUCTORS: 240 cells, references as they were laid; the walk (200) goes by a rule (slot 2) that changes. -/
abbrev mm_S : Type := (Nat → Nat → Int32) × (Nat → Nat → Int64) × Nat
def mm_rtab : List (List (Option Nat)) := [[some 1, some 3, some 7, some 11, none, some 26, some 40, some 97, some 98, some 200, some 211, some 212, some 213], [some 2], [], [some 1, some 4, some 5, some 6], [], [], [], [none, none, none, none, none, some 8, some 9, some 10], [], [], [], [some 12, some 14, some 16, some 18, some 20, some 22, some 24], [some 13], [], [some 15], [], [some 17], [], [some 19], [], [some 21], [], [some 23], [], [some 25], [], [some 27, some 31, some 36], [none, none, none, none, none, some 28, some 29, some 30], [], [], [], [none, none, some 32, some 33, some 34, some 35], [], [], [], [], [none, some 37, some 38, some 39], [], [], [], [some 41, some 55, some 69, some 83], [some 42, some 46, some 51], [none, none, none, none, none, some 43, some 44, some 45], [], [], [], [none, none, some 47, some 48, some 49, some 50], [], [], [], [], [none, some 52, some 53, some 54], [], [], [], [some 56, some 60, some 65], [none, none, none, none, none, some 57, some 58, some 59], [], [], [], [none, none, some 61, some 62, some 63, some 64], [], [], [], [], [none, some 66, some 67, some 68], [], [], [], [some 70, some 74, some 79], [none, none, none, none, none, some 71, some 72, some 73], [], [], [], [none, none, some 75, some 76, some 77, some 78], [], [], [], [], [none, some 80, some 81, some 82], [], [], [], [some 84, some 88, some 93], [none, none, none, none, none, some 85, some 86, some 87], [], [], [], [none, none, some 89, some 90, some 91, some 92], [], [], [], [], [none, some 94, some 95, some 96], [], [], [], [], [some 99], [some 100, some 105, some 110, some 115, some 120, some 125, some 130, some 135, some 140, some 145, some 150, some 155, some 160, some 165, some 170, some 175, some 180, some 185, some 190, some 195], [none, none, some 101, some 102, some 103, some 104], [], [], [], [], [none, none, some 106, some 107, some 108, some 109], [], [], [], [], [none, none, some 111, some 112, some 113, some 114], [], [], [], [], [none, none, some 116, some 117, some 118, some 119], [], [], [], [], [none, none, some 121, some 122, some 123, some 124], [], [], [], [], [none, none, some 126, some 127, some 128, some 129], [], [], [], [], [none, none, some 131, some 132, some 133, some 134], [], [], [], [], [none, none, some 136, some 137, some 138, some 139], [], [], [], [], [none, none, some 141, some 142, some 143, some 144], [], [], [], [], [none, none, some 146, some 147, some 148, some 149], [], [], [], [], [none, none, some 151, some 152, some 153, some 154], [], [], [], [], [none, none, some 156, some 157, some 158, some 159], [], [], [], [], [none, none, some 161, some 162, some 163, some 164], [], [], [], [], [none, none, some 166, some 167, some 168, some 169], [], [], [], [], [none, none, some 171, some 172, some 173, some 174], [], [], [], [], [none, none, some 176, some 177, some 178, some 179], [], [], [], [], [none, none, some 181, some 182, some 183, some 184], [], [], [], [], [none, none, some 186, some 187, some 188, some 189], [], [], [], [], [none, none, some 191, some 192, some 193, some 194], [], [], [], [], [none, none, some 196, some 197, some 198, some 199], [], [], [], [], [some 27, some 201, some 12, none, none, none, some 206, none, some 207, some 208, some 209, some 210], [none, none, some 202, some 203, some 204, some 205], [], [], [], [], [], [], [], [], [], [], [], [], [some 215, none, none, some 216, some 217, some 218, some 219, some 220, none, none, none, none, none, none, none, some 221, none, some 222, none, some 223, some 224, none, none, none, none, none, some 225, some 226, none, some 227, some 228, none, some 229, some 230, some 231, none, none, some 232, some 233, some 234, some 235, none, some 236, some 237, some 238, some 239], [], [], [], [], [], [], [], [], [], [], [], [], [], [], [], [], [], [], [], [], [], [], [], [], []]
def mm_Rst (w a k : Nat) : Option Nat := if a = 200 ∧ k = 2 then some w else (mm_rtab.getD a []).getD k none
def mm_st (σ : mm_S) : mm_M := (σ.1, σ.2.1, mm_Rst σ.2.2, 240)
def su_i (σ : mm_S) (a k : Nat) (x : Int32) : mm_S := (fun i j => if i = a ∧ j = k then x else σ.1 i j, σ.2)
def su_j (σ : mm_S) (a k : Nat) (x : Int64) : mm_S := (σ.1, fun i j => if i = a ∧ j = k then x else σ.2.1 i j, σ.2.2)
def su_w (σ : mm_S) (x : Nat) : mm_S := (σ.1, σ.2.1, x)
/-- n ints of the array b from dp on become those of the array a from sp on -/
def su_c (σ : mm_S) (a sp b dp n : Nat) : mm_S := (fun i j => if i = b then va_cpy (σ.1 a) (σ.1 b) sp dp n j else σ.1 i j, σ.2)
theorem mm_tab_len : mm_tab.length = 240 := by decide +kernel
theorem mm_K_lt {a : Nat} (h : (mm_K a).1 < 18) : a < 240 := by
  rcases Nat.lt_or_ge a 240 with h1 | h1
  · exact h1
  · exfalso
    have h2 : mm_K a = (99, 0) := by
      unfold mm_K
      rw [List.getD_eq_getElem?_getD, List.getElem?_eq_none (by rw [mm_tab_len]; exact h1)]
      rfl
    rw [h2] at h
    exact absurd h (by decide)
theorem mm_Rst_eq {w a k : Nat} (h : ¬ (a = 200 ∧ k = 2)) : mm_Rst w a k = (mm_rtab.getD a []).getD k none := if_neg h

theorem r_0_0 {w a : Nat} (h : (mm_K a).1 = 0) : mm_Rst w a 0 = some 99 ∧ mm_K 99 = (15, 20) := by
  have h1 : a < 240 := mm_K_lt (by rw [h]; decide)
  have h2 : ∀ a, a < 240 → (mm_K a).1 = 0 → ¬ (a = 200 ∧ 0 = 2) ∧ (mm_rtab.getD a []).getD 0 none = some 99 ∧ mm_K 99 = (15, 20) := by decide +kernel
  obtain ⟨q1, q2, q3⟩ := h2 a h1 h
  exact ⟨(mm_Rst_eq q1).trans q2, q3⟩
theorem r_1_5 {w a : Nat} (h : (mm_K a).1 = 1) : mm_Rst w a 5 = some (a + 1) ∧ mm_K (a + 1) = (12, 6) := by
  have h1 : a < 240 := mm_K_lt (by rw [h]; decide)
  have h2 : ∀ a, a < 240 → (mm_K a).1 = 1 → ¬ (a = 200 ∧ 5 = 2) ∧ (mm_rtab.getD a []).getD 5 none = some (a + 1) ∧ mm_K (a + 1) = (12, 6) := by decide +kernel
  obtain ⟨q1, q2, q3⟩ := h2 a h1 h
  exact ⟨(mm_Rst_eq q1).trans q2, q3⟩
theorem r_1_6 {w a : Nat} (h : (mm_K a).1 = 1) : mm_Rst w a 6 = some (a + 2) ∧ mm_K (a + 2) = (12, 6) := by
  have h1 : a < 240 := mm_K_lt (by rw [h]; decide)
  have h2 : ∀ a, a < 240 → (mm_K a).1 = 1 → ¬ (a = 200 ∧ 6 = 2) ∧ (mm_rtab.getD a []).getD 6 none = some (a + 2) ∧ mm_K (a + 2) = (12, 6) := by decide +kernel
  obtain ⟨q1, q2, q3⟩ := h2 a h1 h
  exact ⟨(mm_Rst_eq q1).trans q2, q3⟩
theorem r_1_7 {w a : Nat} (h : (mm_K a).1 = 1) : mm_Rst w a 7 = some (a + 3) ∧ mm_K (a + 3) = (12, 36) := by
  have h1 : a < 240 := mm_K_lt (by rw [h]; decide)
  have h2 : ∀ a, a < 240 → (mm_K a).1 = 1 → ¬ (a = 200 ∧ 7 = 2) ∧ (mm_rtab.getD a []).getD 7 none = some (a + 3) ∧ mm_K (a + 3) = (12, 36) := by decide +kernel
  obtain ⟨q1, q2, q3⟩ := h2 a h1 h
  exact ⟨(mm_Rst_eq q1).trans q2, q3⟩
theorem r_2_2 {w a : Nat} (h : (mm_K a).1 = 2) : mm_Rst w a 2 = some (a + 1) ∧ mm_K (a + 1) = (12, 6) := by
  have h1 : a < 240 := mm_K_lt (by rw [h]; decide)
  have h2 : ∀ a, a < 240 → (mm_K a).1 = 2 → ¬ (a = 200 ∧ 2 = 2) ∧ (mm_rtab.getD a []).getD 2 none = some (a + 1) ∧ mm_K (a + 1) = (12, 6) := by decide +kernel
  obtain ⟨q1, q2, q3⟩ := h2 a h1 h
  exact ⟨(mm_Rst_eq q1).trans q2, q3⟩
theorem r_2_3 {w a : Nat} (h : (mm_K a).1 = 2) : mm_Rst w a 3 = some (a + 2) ∧ mm_K (a + 2) = (12, 6) := by
  have h1 : a < 240 := mm_K_lt (by rw [h]; decide)
  have h2 : ∀ a, a < 240 → (mm_K a).1 = 2 → ¬ (a = 200 ∧ 3 = 2) ∧ (mm_rtab.getD a []).getD 3 none = some (a + 2) ∧ mm_K (a + 2) = (12, 6) := by decide +kernel
  obtain ⟨q1, q2, q3⟩ := h2 a h1 h
  exact ⟨(mm_Rst_eq q1).trans q2, q3⟩
theorem r_2_4 {w a : Nat} (h : (mm_K a).1 = 2) : mm_Rst w a 4 = some (a + 3) ∧ mm_K (a + 3) = (12, 6) := by
  have h1 : a < 240 := mm_K_lt (by rw [h]; decide)
  have h2 : ∀ a, a < 240 → (mm_K a).1 = 2 → ¬ (a = 200 ∧ 4 = 2) ∧ (mm_rtab.getD a []).getD 4 none = some (a + 3) ∧ mm_K (a + 3) = (12, 6) := by decide +kernel
  obtain ⟨q1, q2, q3⟩ := h2 a h1 h
  exact ⟨(mm_Rst_eq q1).trans q2, q3⟩
theorem r_2_5 {w a : Nat} (h : (mm_K a).1 = 2) : mm_Rst w a 5 = some (a + 4) ∧ mm_K (a + 4) = (12, 6) := by
  have h1 : a < 240 := mm_K_lt (by rw [h]; decide)
  have h2 : ∀ a, a < 240 → (mm_K a).1 = 2 → ¬ (a = 200 ∧ 5 = 2) ∧ (mm_rtab.getD a []).getD 5 none = some (a + 4) ∧ mm_K (a + 4) = (12, 6) := by decide +kernel
  obtain ⟨q1, q2, q3⟩ := h2 a h1 h
  exact ⟨(mm_Rst_eq q1).trans q2, q3⟩
theorem r_3_1 {w a : Nat} (h : (mm_K a).1 = 3) : mm_Rst w a 1 = some (a + 1) ∧ mm_K (a + 1) = (12, 10) := by
  have h1 : a < 240 := mm_K_lt (by rw [h]; decide)
  have h2 : ∀ a, a < 240 → (mm_K a).1 = 3 → ¬ (a = 200 ∧ 1 = 2) ∧ (mm_rtab.getD a []).getD 1 none = some (a + 1) ∧ mm_K (a + 1) = (12, 10) := by decide +kernel
  obtain ⟨q1, q2, q3⟩ := h2 a h1 h
  exact ⟨(mm_Rst_eq q1).trans q2, q3⟩
theorem r_3_2 {w a : Nat} (h : (mm_K a).1 = 3) : mm_Rst w a 2 = some (a + 2) ∧ mm_K (a + 2) = (12, 10) := by
  have h1 : a < 240 := mm_K_lt (by rw [h]; decide)
  have h2 : ∀ a, a < 240 → (mm_K a).1 = 3 → ¬ (a = 200 ∧ 2 = 2) ∧ (mm_rtab.getD a []).getD 2 none = some (a + 2) ∧ mm_K (a + 2) = (12, 10) := by decide +kernel
  obtain ⟨q1, q2, q3⟩ := h2 a h1 h
  exact ⟨(mm_Rst_eq q1).trans q2, q3⟩
theorem r_3_3 {w a : Nat} (h : (mm_K a).1 = 3) : mm_Rst w a 3 = some (a + 3) ∧ mm_K (a + 3) = (12, 10) := by
  have h1 : a < 240 := mm_K_lt (by rw [h]; decide)
  have h2 : ∀ a, a < 240 → (mm_K a).1 = 3 → ¬ (a = 200 ∧ 3 = 2) ∧ (mm_rtab.getD a []).getD 3 none = some (a + 3) ∧ mm_K (a + 3) = (12, 10) := by decide +kernel
  obtain ⟨q1, q2, q3⟩ := h2 a h1 h
  exact ⟨(mm_Rst_eq q1).trans q2, q3⟩
theorem r_4_0 {w a : Nat} (h : (mm_K a).1 = 4) : mm_Rst w a 0 = some 1 ∧ mm_K 1 = (6, 0) := by
  have h1 : a < 240 := mm_K_lt (by rw [h]; decide)
  have h2 : ∀ a, a < 240 → (mm_K a).1 = 4 → ¬ (a = 200 ∧ 0 = 2) ∧ (mm_rtab.getD a []).getD 0 none = some 1 ∧ mm_K 1 = (6, 0) := by decide +kernel
  obtain ⟨q1, q2, q3⟩ := h2 a h1 h
  exact ⟨(mm_Rst_eq q1).trans q2, q3⟩
theorem r_4_1 {w a : Nat} (h : (mm_K a).1 = 4) : mm_Rst w a 1 = some 4 ∧ mm_K 4 = (12, 401) := by
  have h1 : a < 240 := mm_K_lt (by rw [h]; decide)
  have h2 : ∀ a, a < 240 → (mm_K a).1 = 4 → ¬ (a = 200 ∧ 1 = 2) ∧ (mm_rtab.getD a []).getD 1 none = some 4 ∧ mm_K 4 = (12, 401) := by decide +kernel
  obtain ⟨q1, q2, q3⟩ := h2 a h1 h
  exact ⟨(mm_Rst_eq q1).trans q2, q3⟩
theorem r_4_2 {w a : Nat} (h : (mm_K a).1 = 4) : mm_Rst w a 2 = some 5 ∧ mm_K 5 = (12, 401) := by
  have h1 : a < 240 := mm_K_lt (by rw [h]; decide)
  have h2 : ∀ a, a < 240 → (mm_K a).1 = 4 → ¬ (a = 200 ∧ 2 = 2) ∧ (mm_rtab.getD a []).getD 2 none = some 5 ∧ mm_K 5 = (12, 401) := by decide +kernel
  obtain ⟨q1, q2, q3⟩ := h2 a h1 h
  exact ⟨(mm_Rst_eq q1).trans q2, q3⟩
theorem r_4_3 {w a : Nat} (h : (mm_K a).1 = 4) : mm_Rst w a 3 = some 6 ∧ mm_K 6 = (12, 401) := by
  have h1 : a < 240 := mm_K_lt (by rw [h]; decide)
  have h2 : ∀ a, a < 240 → (mm_K a).1 = 4 → ¬ (a = 200 ∧ 3 = 2) ∧ (mm_rtab.getD a []).getD 3 none = some 6 ∧ mm_K 6 = (12, 401) := by decide +kernel
  obtain ⟨q1, q2, q3⟩ := h2 a h1 h
  exact ⟨(mm_Rst_eq q1).trans q2, q3⟩
theorem r_5_0 {w a : Nat} (h : (mm_K a).1 = 5) : mm_Rst w a 0 = some (a + 1) ∧ mm_K (a + 1) = (12, 400) := by
  have h1 : a < 240 := mm_K_lt (by rw [h]; decide)
  have h2 : ∀ a, a < 240 → (mm_K a).1 = 5 → ¬ (a = 200 ∧ 0 = 2) ∧ (mm_rtab.getD a []).getD 0 none = some (a + 1) ∧ mm_K (a + 1) = (12, 400) := by decide +kernel
  obtain ⟨q1, q2, q3⟩ := h2 a h1 h
  exact ⟨(mm_Rst_eq q1).trans q2, q3⟩
theorem r_6_0 {w a : Nat} (h : (mm_K a).1 = 6) : mm_Rst w a 0 = some 2 ∧ mm_K 2 = (11, 400) := by
  have h1 : a < 240 := mm_K_lt (by rw [h]; decide)
  have h2 : ∀ a, a < 240 → (mm_K a).1 = 6 → ¬ (a = 200 ∧ 0 = 2) ∧ (mm_rtab.getD a []).getD 0 none = some 2 ∧ mm_K 2 = (11, 400) := by decide +kernel
  obtain ⟨q1, q2, q3⟩ := h2 a h1 h
  exact ⟨(mm_Rst_eq q1).trans q2, q3⟩
theorem r_7_0 {w a : Nat} (h : (mm_K a).1 = 7) : mm_Rst w a 0 = some 27 ∧ mm_K 27 = (1, 0) := by
  have h1 : a < 240 := mm_K_lt (by rw [h]; decide)
  have h2 : ∀ a, a < 240 → (mm_K a).1 = 7 → ¬ (a = 200 ∧ 0 = 2) ∧ (mm_rtab.getD a []).getD 0 none = some 27 ∧ mm_K 27 = (1, 0) := by decide +kernel
  obtain ⟨q1, q2, q3⟩ := h2 a h1 h
  exact ⟨(mm_Rst_eq q1).trans q2, q3⟩
theorem r_7_1 {w a : Nat} (h : (mm_K a).1 = 7) : mm_Rst w a 1 = some 201 ∧ mm_K 201 = (2, 0) := by
  have h1 : a < 240 := mm_K_lt (by rw [h]; decide)
  have h2 : ∀ a, a < 240 → (mm_K a).1 = 7 → ¬ (a = 200 ∧ 1 = 2) ∧ (mm_rtab.getD a []).getD 1 none = some 201 ∧ mm_K 201 = (2, 0) := by decide +kernel
  obtain ⟨q1, q2, q3⟩ := h2 a h1 h
  exact ⟨(mm_Rst_eq q1).trans q2, q3⟩
theorem r_7_6 {w a : Nat} (h : (mm_K a).1 = 7) : mm_Rst w a 6 = some 206 ∧ mm_K 206 = (12, 6) := by
  have h1 : a < 240 := mm_K_lt (by rw [h]; decide)
  have h2 : ∀ a, a < 240 → (mm_K a).1 = 7 → ¬ (a = 200 ∧ 6 = 2) ∧ (mm_rtab.getD a []).getD 6 none = some 206 ∧ mm_K 206 = (12, 6) := by decide +kernel
  obtain ⟨q1, q2, q3⟩ := h2 a h1 h
  exact ⟨(mm_Rst_eq q1).trans q2, q3⟩
theorem r_7_8 {w a : Nat} (h : (mm_K a).1 = 7) : mm_Rst w a 8 = some 207 ∧ mm_K 207 = (12, 6) := by
  have h1 : a < 240 := mm_K_lt (by rw [h]; decide)
  have h2 : ∀ a, a < 240 → (mm_K a).1 = 7 → ¬ (a = 200 ∧ 8 = 2) ∧ (mm_rtab.getD a []).getD 8 none = some 207 ∧ mm_K 207 = (12, 6) := by decide +kernel
  obtain ⟨q1, q2, q3⟩ := h2 a h1 h
  exact ⟨(mm_Rst_eq q1).trans q2, q3⟩
theorem r_7_9 {w a : Nat} (h : (mm_K a).1 = 7) : mm_Rst w a 9 = some 208 ∧ mm_K 208 = (12, 6) := by
  have h1 : a < 240 := mm_K_lt (by rw [h]; decide)
  have h2 : ∀ a, a < 240 → (mm_K a).1 = 7 → ¬ (a = 200 ∧ 9 = 2) ∧ (mm_rtab.getD a []).getD 9 none = some 208 ∧ mm_K 208 = (12, 6) := by decide +kernel
  obtain ⟨q1, q2, q3⟩ := h2 a h1 h
  exact ⟨(mm_Rst_eq q1).trans q2, q3⟩
theorem r_7_10 {w a : Nat} (h : (mm_K a).1 = 7) : mm_Rst w a 10 = some 209 ∧ mm_K 209 = (13, 13) := by
  have h1 : a < 240 := mm_K_lt (by rw [h]; decide)
  have h2 : ∀ a, a < 240 → (mm_K a).1 = 7 → ¬ (a = 200 ∧ 10 = 2) ∧ (mm_rtab.getD a []).getD 10 none = some 209 ∧ mm_K 209 = (13, 13) := by decide +kernel
  obtain ⟨q1, q2, q3⟩ := h2 a h1 h
  exact ⟨(mm_Rst_eq q1).trans q2, q3⟩
theorem r_7_11 {w a : Nat} (h : (mm_K a).1 = 7) : mm_Rst w a 11 = some 210 ∧ mm_K 210 = (13, 48) := by
  have h1 : a < 240 := mm_K_lt (by rw [h]; decide)
  have h2 : ∀ a, a < 240 → (mm_K a).1 = 7 → ¬ (a = 200 ∧ 11 = 2) ∧ (mm_rtab.getD a []).getD 11 none = some 210 ∧ mm_K 210 = (13, 48) := by decide +kernel
  obtain ⟨q1, q2, q3⟩ := h2 a h1 h
  exact ⟨(mm_Rst_eq q1).trans q2, q3⟩
theorem r_8_0 {w a : Nat} (h : (mm_K a).1 = 8) : mm_Rst w a 0 = some (a + 1) ∧ mm_K (a + 1) = (1, 0) := by
  have h1 : a < 240 := mm_K_lt (by rw [h]; decide)
  have h2 : ∀ a, a < 240 → (mm_K a).1 = 8 → ¬ (a = 200 ∧ 0 = 2) ∧ (mm_rtab.getD a []).getD 0 none = some (a + 1) ∧ mm_K (a + 1) = (1, 0) := by decide +kernel
  obtain ⟨q1, q2, q3⟩ := h2 a h1 h
  exact ⟨(mm_Rst_eq q1).trans q2, q3⟩
theorem r_8_1 {w a : Nat} (h : (mm_K a).1 = 8) : mm_Rst w a 1 = some (a + 5) ∧ mm_K (a + 5) = (2, 0) := by
  have h1 : a < 240 := mm_K_lt (by rw [h]; decide)
  have h2 : ∀ a, a < 240 → (mm_K a).1 = 8 → ¬ (a = 200 ∧ 1 = 2) ∧ (mm_rtab.getD a []).getD 1 none = some (a + 5) ∧ mm_K (a + 5) = (2, 0) := by decide +kernel
  obtain ⟨q1, q2, q3⟩ := h2 a h1 h
  exact ⟨(mm_Rst_eq q1).trans q2, q3⟩
theorem r_8_2 {w a : Nat} (h : (mm_K a).1 = 8) : mm_Rst w a 2 = some (a + 10) ∧ mm_K (a + 10) = (3, 0) := by
  have h1 : a < 240 := mm_K_lt (by rw [h]; decide)
  have h2 : ∀ a, a < 240 → (mm_K a).1 = 8 → ¬ (a = 200 ∧ 2 = 2) ∧ (mm_rtab.getD a []).getD 2 none = some (a + 10) ∧ mm_K (a + 10) = (3, 0) := by decide +kernel
  obtain ⟨q1, q2, q3⟩ := h2 a h1 h
  exact ⟨(mm_Rst_eq q1).trans q2, q3⟩
theorem r_9_0 {w a : Nat} (h : (mm_K a).1 = 9) : mm_Rst w a 0 = some 1 ∧ mm_K 1 = (6, 0) := by
  have h1 : a < 240 := mm_K_lt (by rw [h]; decide)
  have h2 : ∀ a, a < 240 → (mm_K a).1 = 9 → ¬ (a = 200 ∧ 0 = 2) ∧ (mm_rtab.getD a []).getD 0 none = some 1 ∧ mm_K 1 = (6, 0) := by decide +kernel
  obtain ⟨q1, q2, q3⟩ := h2 a h1 h
  exact ⟨(mm_Rst_eq q1).trans q2, q3⟩
theorem r_9_1 {w a : Nat} (h : (mm_K a).1 = 9) : mm_Rst w a 1 = some 3 ∧ mm_K 3 = (4, 0) := by
  have h1 : a < 240 := mm_K_lt (by rw [h]; decide)
  have h2 : ∀ a, a < 240 → (mm_K a).1 = 9 → ¬ (a = 200 ∧ 1 = 2) ∧ (mm_rtab.getD a []).getD 1 none = some 3 ∧ mm_K 3 = (4, 0) := by decide +kernel
  obtain ⟨q1, q2, q3⟩ := h2 a h1 h
  exact ⟨(mm_Rst_eq q1).trans q2, q3⟩
theorem r_9_2 {w a : Nat} (h : (mm_K a).1 = 9) : mm_Rst w a 2 = some 7 ∧ mm_K 7 = (1, 0) := by
  have h1 : a < 240 := mm_K_lt (by rw [h]; decide)
  have h2 : ∀ a, a < 240 → (mm_K a).1 = 9 → ¬ (a = 200 ∧ 2 = 2) ∧ (mm_rtab.getD a []).getD 2 none = some 7 ∧ mm_K 7 = (1, 0) := by decide +kernel
  obtain ⟨q1, q2, q3⟩ := h2 a h1 h
  exact ⟨(mm_Rst_eq q1).trans q2, q3⟩
theorem r_9_3 {w a : Nat} (h : (mm_K a).1 = 9) : mm_Rst w a 3 = some 11 ∧ mm_K 11 = (16, 7) := by
  have h1 : a < 240 := mm_K_lt (by rw [h]; decide)
  have h2 : ∀ a, a < 240 → (mm_K a).1 = 9 → ¬ (a = 200 ∧ 3 = 2) ∧ (mm_rtab.getD a []).getD 3 none = some 11 ∧ mm_K 11 = (16, 7) := by decide +kernel
  obtain ⟨q1, q2, q3⟩ := h2 a h1 h
  exact ⟨(mm_Rst_eq q1).trans q2, q3⟩
theorem r_9_5 {w a : Nat} (h : (mm_K a).1 = 9) : mm_Rst w a 5 = some 26 ∧ mm_K 26 = (8, 0) := by
  have h1 : a < 240 := mm_K_lt (by rw [h]; decide)
  have h2 : ∀ a, a < 240 → (mm_K a).1 = 9 → ¬ (a = 200 ∧ 5 = 2) ∧ (mm_rtab.getD a []).getD 5 none = some 26 ∧ mm_K 26 = (8, 0) := by decide +kernel
  obtain ⟨q1, q2, q3⟩ := h2 a h1 h
  exact ⟨(mm_Rst_eq q1).trans q2, q3⟩
theorem r_9_6 {w a : Nat} (h : (mm_K a).1 = 9) : mm_Rst w a 6 = some 40 ∧ mm_K 40 = (17, 4) := by
  have h1 : a < 240 := mm_K_lt (by rw [h]; decide)
  have h2 : ∀ a, a < 240 → (mm_K a).1 = 9 → ¬ (a = 200 ∧ 6 = 2) ∧ (mm_rtab.getD a []).getD 6 none = some 40 ∧ mm_K 40 = (17, 4) := by decide +kernel
  obtain ⟨q1, q2, q3⟩ := h2 a h1 h
  exact ⟨(mm_Rst_eq q1).trans q2, q3⟩
theorem r_9_7 {w a : Nat} (h : (mm_K a).1 = 9) : mm_Rst w a 7 = some 97 ∧ mm_K 97 = (14, 4) := by
  have h1 : a < 240 := mm_K_lt (by rw [h]; decide)
  have h2 : ∀ a, a < 240 → (mm_K a).1 = 9 → ¬ (a = 200 ∧ 7 = 2) ∧ (mm_rtab.getD a []).getD 7 none = some 97 ∧ mm_K 97 = (14, 4) := by decide +kernel
  obtain ⟨q1, q2, q3⟩ := h2 a h1 h
  exact ⟨(mm_Rst_eq q1).trans q2, q3⟩
theorem r_9_8 {w a : Nat} (h : (mm_K a).1 = 9) : mm_Rst w a 8 = some 98 ∧ mm_K 98 = (0, 0) := by
  have h1 : a < 240 := mm_K_lt (by rw [h]; decide)
  have h2 : ∀ a, a < 240 → (mm_K a).1 = 9 → ¬ (a = 200 ∧ 8 = 2) ∧ (mm_rtab.getD a []).getD 8 none = some 98 ∧ mm_K 98 = (0, 0) := by decide +kernel
  obtain ⟨q1, q2, q3⟩ := h2 a h1 h
  exact ⟨(mm_Rst_eq q1).trans q2, q3⟩
theorem r_9_9 {w a : Nat} (h : (mm_K a).1 = 9) : mm_Rst w a 9 = some 200 ∧ mm_K 200 = (7, 0) := by
  have h1 : a < 240 := mm_K_lt (by rw [h]; decide)
  have h2 : ∀ a, a < 240 → (mm_K a).1 = 9 → ¬ (a = 200 ∧ 9 = 2) ∧ (mm_rtab.getD a []).getD 9 none = some 200 ∧ mm_K 200 = (7, 0) := by decide +kernel
  obtain ⟨q1, q2, q3⟩ := h2 a h1 h
  exact ⟨(mm_Rst_eq q1).trans q2, q3⟩
theorem r_9_10 {w a : Nat} (h : (mm_K a).1 = 9) : mm_Rst w a 10 = some 211 ∧ mm_K 211 = (12, 6) := by
  have h1 : a < 240 := mm_K_lt (by rw [h]; decide)
  have h2 : ∀ a, a < 240 → (mm_K a).1 = 9 → ¬ (a = 200 ∧ 10 = 2) ∧ (mm_rtab.getD a []).getD 10 none = some 211 ∧ mm_K 211 = (12, 6) := by decide +kernel
  obtain ⟨q1, q2, q3⟩ := h2 a h1 h
  exact ⟨(mm_Rst_eq q1).trans q2, q3⟩
theorem r_9_11 {w a : Nat} (h : (mm_K a).1 = 9) : mm_Rst w a 11 = some 212 ∧ mm_K 212 = (12, 72) := by
  have h1 : a < 240 := mm_K_lt (by rw [h]; decide)
  have h2 : ∀ a, a < 240 → (mm_K a).1 = 9 → ¬ (a = 200 ∧ 11 = 2) ∧ (mm_rtab.getD a []).getD 11 none = some 212 ∧ mm_K 212 = (12, 72) := by decide +kernel
  obtain ⟨q1, q2, q3⟩ := h2 a h1 h
  exact ⟨(mm_Rst_eq q1).trans q2, q3⟩
theorem r_9_12 {w a : Nat} (h : (mm_K a).1 = 9) : mm_Rst w a 12 = some 213 ∧ mm_K 213 = (12, 427) := by
  have h1 : a < 240 := mm_K_lt (by rw [h]; decide)
  have h2 : ∀ a, a < 240 → (mm_K a).1 = 9 → ¬ (a = 200 ∧ 12 = 2) ∧ (mm_rtab.getD a []).getD 12 none = some 213 ∧ mm_K 213 = (12, 427) := by decide +kernel
  obtain ⟨q1, q2, q3⟩ := h2 a h1 h
  exact ⟨(mm_Rst_eq q1).trans q2, q3⟩
theorem r_10_0 {w a : Nat} (h : (mm_K a).1 = 10) : mm_Rst w a 0 = some 215 ∧ mm_K 215 = (11, 400) := by
  have h1 : a < 240 := mm_K_lt (by rw [h]; decide)
  have h2 : ∀ a, a < 240 → (mm_K a).1 = 10 → ¬ (a = 200 ∧ 0 = 2) ∧ (mm_rtab.getD a []).getD 0 none = some 215 ∧ mm_K 215 = (11, 400) := by decide +kernel
  obtain ⟨q1, q2, q3⟩ := h2 a h1 h
  exact ⟨(mm_Rst_eq q1).trans q2, q3⟩
theorem r_10_3 {w a : Nat} (h : (mm_K a).1 = 10) : mm_Rst w a 3 = some 216 ∧ mm_K 216 = (12, 2400) := by
  have h1 : a < 240 := mm_K_lt (by rw [h]; decide)
  have h2 : ∀ a, a < 240 → (mm_K a).1 = 10 → ¬ (a = 200 ∧ 3 = 2) ∧ (mm_rtab.getD a []).getD 3 none = some 216 ∧ mm_K 216 = (12, 2400) := by decide +kernel
  obtain ⟨q1, q2, q3⟩ := h2 a h1 h
  exact ⟨(mm_Rst_eq q1).trans q2, q3⟩
theorem r_10_4 {w a : Nat} (h : (mm_K a).1 = 10) : mm_Rst w a 4 = some 217 ∧ mm_K 217 = (12, 7) := by
  have h1 : a < 240 := mm_K_lt (by rw [h]; decide)
  have h2 : ∀ a, a < 240 → (mm_K a).1 = 10 → ¬ (a = 200 ∧ 4 = 2) ∧ (mm_rtab.getD a []).getD 4 none = some 217 ∧ mm_K 217 = (12, 7) := by decide +kernel
  obtain ⟨q1, q2, q3⟩ := h2 a h1 h
  exact ⟨(mm_Rst_eq q1).trans q2, q3⟩
theorem r_10_5 {w a : Nat} (h : (mm_K a).1 = 10) : mm_Rst w a 5 = some 218 ∧ mm_K 218 = (12, 288) := by
  have h1 : a < 240 := mm_K_lt (by rw [h]; decide)
  have h2 : ∀ a, a < 240 → (mm_K a).1 = 10 → ¬ (a = 200 ∧ 5 = 2) ∧ (mm_rtab.getD a []).getD 5 none = some 218 ∧ mm_K 218 = (12, 288) := by decide +kernel
  obtain ⟨q1, q2, q3⟩ := h2 a h1 h
  exact ⟨(mm_Rst_eq q1).trans q2, q3⟩
theorem r_10_6 {w a : Nat} (h : (mm_K a).1 = 10) : mm_Rst w a 6 = some 219 ∧ mm_K 219 = (12, 6) := by
  have h1 : a < 240 := mm_K_lt (by rw [h]; decide)
  have h2 : ∀ a, a < 240 → (mm_K a).1 = 10 → ¬ (a = 200 ∧ 6 = 2) ∧ (mm_rtab.getD a []).getD 6 none = some 219 ∧ mm_K 219 = (12, 6) := by decide +kernel
  obtain ⟨q1, q2, q3⟩ := h2 a h1 h
  exact ⟨(mm_Rst_eq q1).trans q2, q3⟩
theorem r_10_7 {w a : Nat} (h : (mm_K a).1 = 10) : mm_Rst w a 7 = some 220 ∧ mm_K 220 = (12, 90) := by
  have h1 : a < 240 := mm_K_lt (by rw [h]; decide)
  have h2 : ∀ a, a < 240 → (mm_K a).1 = 10 → ¬ (a = 200 ∧ 7 = 2) ∧ (mm_rtab.getD a []).getD 7 none = some 220 ∧ mm_K 220 = (12, 90) := by decide +kernel
  obtain ⟨q1, q2, q3⟩ := h2 a h1 h
  exact ⟨(mm_Rst_eq q1).trans q2, q3⟩
theorem r_10_15 {w a : Nat} (h : (mm_K a).1 = 10) : mm_Rst w a 15 = some 221 ∧ mm_K 221 = (12, 400) := by
  have h1 : a < 240 := mm_K_lt (by rw [h]; decide)
  have h2 : ∀ a, a < 240 → (mm_K a).1 = 10 → ¬ (a = 200 ∧ 15 = 2) ∧ (mm_rtab.getD a []).getD 15 none = some 221 ∧ mm_K 221 = (12, 400) := by decide +kernel
  obtain ⟨q1, q2, q3⟩ := h2 a h1 h
  exact ⟨(mm_Rst_eq q1).trans q2, q3⟩
theorem r_10_17 {w a : Nat} (h : (mm_K a).1 = 10) : mm_Rst w a 17 = some 222 ∧ mm_K 222 = (13, 64) := by
  have h1 : a < 240 := mm_K_lt (by rw [h]; decide)
  have h2 : ∀ a, a < 240 → (mm_K a).1 = 10 → ¬ (a = 200 ∧ 17 = 2) ∧ (mm_rtab.getD a []).getD 17 none = some 222 ∧ mm_K 222 = (13, 64) := by decide +kernel
  obtain ⟨q1, q2, q3⟩ := h2 a h1 h
  exact ⟨(mm_Rst_eq q1).trans q2, q3⟩
theorem r_10_19 {w a : Nat} (h : (mm_K a).1 = 10) : mm_Rst w a 19 = some 223 ∧ mm_K 223 = (13, 13) := by
  have h1 : a < 240 := mm_K_lt (by rw [h]; decide)
  have h2 : ∀ a, a < 240 → (mm_K a).1 = 10 → ¬ (a = 200 ∧ 19 = 2) ∧ (mm_rtab.getD a []).getD 19 none = some 223 ∧ mm_K 223 = (13, 13) := by decide +kernel
  obtain ⟨q1, q2, q3⟩ := h2 a h1 h
  exact ⟨(mm_Rst_eq q1).trans q2, q3⟩
theorem r_10_20 {w a : Nat} (h : (mm_K a).1 = 10) : mm_Rst w a 20 = some 224 ∧ mm_K 224 = (12, 121) := by
  have h1 : a < 240 := mm_K_lt (by rw [h]; decide)
  have h2 : ∀ a, a < 240 → (mm_K a).1 = 10 → ¬ (a = 200 ∧ 20 = 2) ∧ (mm_rtab.getD a []).getD 20 none = some 224 ∧ mm_K 224 = (12, 121) := by decide +kernel
  obtain ⟨q1, q2, q3⟩ := h2 a h1 h
  exact ⟨(mm_Rst_eq q1).trans q2, q3⟩
theorem r_10_26 {w a : Nat} (h : (mm_K a).1 = 10) : mm_Rst w a 26 = some 225 ∧ mm_K 225 = (12, 6) := by
  have h1 : a < 240 := mm_K_lt (by rw [h]; decide)
  have h2 : ∀ a, a < 240 → (mm_K a).1 = 10 → ¬ (a = 200 ∧ 26 = 2) ∧ (mm_rtab.getD a []).getD 26 none = some 225 ∧ mm_K 225 = (12, 6) := by decide +kernel
  obtain ⟨q1, q2, q3⟩ := h2 a h1 h
  exact ⟨(mm_Rst_eq q1).trans q2, q3⟩
theorem r_10_27 {w a : Nat} (h : (mm_K a).1 = 10) : mm_Rst w a 27 = some 226 ∧ mm_K 226 = (12, 6) := by
  have h1 : a < 240 := mm_K_lt (by rw [h]; decide)
  have h2 : ∀ a, a < 240 → (mm_K a).1 = 10 → ¬ (a = 200 ∧ 27 = 2) ∧ (mm_rtab.getD a []).getD 27 none = some 226 ∧ mm_K 226 = (12, 6) := by decide +kernel
  obtain ⟨q1, q2, q3⟩ := h2 a h1 h
  exact ⟨(mm_Rst_eq q1).trans q2, q3⟩
theorem r_10_29 {w a : Nat} (h : (mm_K a).1 = 10) : mm_Rst w a 29 = some 227 ∧ mm_K 227 = (12, 6) := by
  have h1 : a < 240 := mm_K_lt (by rw [h]; decide)
  have h2 : ∀ a, a < 240 → (mm_K a).1 = 10 → ¬ (a = 200 ∧ 29 = 2) ∧ (mm_rtab.getD a []).getD 29 none = some 227 ∧ mm_K 227 = (12, 6) := by decide +kernel
  obtain ⟨q1, q2, q3⟩ := h2 a h1 h
  exact ⟨(mm_Rst_eq q1).trans q2, q3⟩
theorem r_10_30 {w a : Nat} (h : (mm_K a).1 = 10) : mm_Rst w a 30 = some 228 ∧ mm_K 228 = (12, 620) := by
  have h1 : a < 240 := mm_K_lt (by rw [h]; decide)
  have h2 : ∀ a, a < 240 → (mm_K a).1 = 10 → ¬ (a = 200 ∧ 30 = 2) ∧ (mm_rtab.getD a []).getD 30 none = some 228 ∧ mm_K 228 = (12, 620) := by decide +kernel
  obtain ⟨q1, q2, q3⟩ := h2 a h1 h
  exact ⟨(mm_Rst_eq q1).trans q2, q3⟩
theorem r_10_32 {w a : Nat} (h : (mm_K a).1 = 10) : mm_Rst w a 32 = some 229 ∧ mm_K 229 = (12, 31) := by
  have h1 : a < 240 := mm_K_lt (by rw [h]; decide)
  have h2 : ∀ a, a < 240 → (mm_K a).1 = 10 → ¬ (a = 200 ∧ 32 = 2) ∧ (mm_rtab.getD a []).getD 32 none = some 229 ∧ mm_K 229 = (12, 31) := by decide +kernel
  obtain ⟨q1, q2, q3⟩ := h2 a h1 h
  exact ⟨(mm_Rst_eq q1).trans q2, q3⟩
theorem r_10_33 {w a : Nat} (h : (mm_K a).1 = 10) : mm_Rst w a 33 = some 230 ∧ mm_K 230 = (12, 7) := by
  have h1 : a < 240 := mm_K_lt (by rw [h]; decide)
  have h2 : ∀ a, a < 240 → (mm_K a).1 = 10 → ¬ (a = 200 ∧ 33 = 2) ∧ (mm_rtab.getD a []).getD 33 none = some 230 ∧ mm_K 230 = (12, 7) := by decide +kernel
  obtain ⟨q1, q2, q3⟩ := h2 a h1 h
  exact ⟨(mm_Rst_eq q1).trans q2, q3⟩
theorem r_10_34 {w a : Nat} (h : (mm_K a).1 = 10) : mm_Rst w a 34 = some 231 ∧ mm_K 231 = (12, 6) := by
  have h1 : a < 240 := mm_K_lt (by rw [h]; decide)
  have h2 : ∀ a, a < 240 → (mm_K a).1 = 10 → ¬ (a = 200 ∧ 34 = 2) ∧ (mm_rtab.getD a []).getD 34 none = some 231 ∧ mm_K 231 = (12, 6) := by decide +kernel
  obtain ⟨q1, q2, q3⟩ := h2 a h1 h
  exact ⟨(mm_Rst_eq q1).trans q2, q3⟩
theorem r_10_37 {w a : Nat} (h : (mm_K a).1 = 10) : mm_Rst w a 37 = some 232 ∧ mm_K 232 = (12, 732) := by
  have h1 : a < 240 := mm_K_lt (by rw [h]; decide)
  have h2 : ∀ a, a < 240 → (mm_K a).1 = 10 → ¬ (a = 200 ∧ 37 = 2) ∧ (mm_rtab.getD a []).getD 37 none = some 232 ∧ mm_K 232 = (12, 732) := by decide +kernel
  obtain ⟨q1, q2, q3⟩ := h2 a h1 h
  exact ⟨(mm_Rst_eq q1).trans q2, q3⟩
theorem r_10_38 {w a : Nat} (h : (mm_K a).1 = 10) : mm_Rst w a 38 = some 233 ∧ mm_K 233 = (12, 72) := by
  have h1 : a < 240 := mm_K_lt (by rw [h]; decide)
  have h2 : ∀ a, a < 240 → (mm_K a).1 = 10 → ¬ (a = 200 ∧ 38 = 2) ∧ (mm_rtab.getD a []).getD 38 none = some 233 ∧ mm_K 233 = (12, 72) := by decide +kernel
  obtain ⟨q1, q2, q3⟩ := h2 a h1 h
  exact ⟨(mm_Rst_eq q1).trans q2, q3⟩
theorem r_10_39 {w a : Nat} (h : (mm_K a).1 = 10) : mm_Rst w a 39 = some 234 ∧ mm_K 234 = (14, 7) := by
  have h1 : a < 240 := mm_K_lt (by rw [h]; decide)
  have h2 : ∀ a, a < 240 → (mm_K a).1 = 10 → ¬ (a = 200 ∧ 39 = 2) ∧ (mm_rtab.getD a []).getD 39 none = some 234 ∧ mm_K 234 = (14, 7) := by decide +kernel
  obtain ⟨q1, q2, q3⟩ := h2 a h1 h
  exact ⟨(mm_Rst_eq q1).trans q2, q3⟩
theorem r_10_40 {w a : Nat} (h : (mm_K a).1 = 10) : mm_Rst w a 40 = some 235 ∧ mm_K 235 = (12, 427) := by
  have h1 : a < 240 := mm_K_lt (by rw [h]; decide)
  have h2 : ∀ a, a < 240 → (mm_K a).1 = 10 → ¬ (a = 200 ∧ 40 = 2) ∧ (mm_rtab.getD a []).getD 40 none = some 235 ∧ mm_K 235 = (12, 427) := by decide +kernel
  obtain ⟨q1, q2, q3⟩ := h2 a h1 h
  exact ⟨(mm_Rst_eq q1).trans q2, q3⟩
theorem r_10_42 {w a : Nat} (h : (mm_K a).1 = 10) : mm_Rst w a 42 = some 236 ∧ mm_K 236 = (12, 484) := by
  have h1 : a < 240 := mm_K_lt (by rw [h]; decide)
  have h2 : ∀ a, a < 240 → (mm_K a).1 = 10 → ¬ (a = 200 ∧ 42 = 2) ∧ (mm_rtab.getD a []).getD 42 none = some 236 ∧ mm_K 236 = (12, 484) := by decide +kernel
  obtain ⟨q1, q2, q3⟩ := h2 a h1 h
  exact ⟨(mm_Rst_eq q1).trans q2, q3⟩
theorem r_10_43 {w a : Nat} (h : (mm_K a).1 = 10) : mm_Rst w a 43 = some 237 ∧ mm_K 237 = (12, 4) := by
  have h1 : a < 240 := mm_K_lt (by rw [h]; decide)
  have h2 : ∀ a, a < 240 → (mm_K a).1 = 10 → ¬ (a = 200 ∧ 43 = 2) ∧ (mm_rtab.getD a []).getD 43 none = some 237 ∧ mm_K 237 = (12, 4) := by decide +kernel
  obtain ⟨q1, q2, q3⟩ := h2 a h1 h
  exact ⟨(mm_Rst_eq q1).trans q2, q3⟩
theorem r_10_44 {w a : Nat} (h : (mm_K a).1 = 10) : mm_Rst w a 44 = some 238 ∧ mm_K 238 = (12, 4) := by
  have h1 : a < 240 := mm_K_lt (by rw [h]; decide)
  have h2 : ∀ a, a < 240 → (mm_K a).1 = 10 → ¬ (a = 200 ∧ 44 = 2) ∧ (mm_rtab.getD a []).getD 44 none = some 238 ∧ mm_K 238 = (12, 4) := by decide +kernel
  obtain ⟨q1, q2, q3⟩ := h2 a h1 h
  exact ⟨(mm_Rst_eq q1).trans q2, q3⟩
theorem r_10_45 {w a : Nat} (h : (mm_K a).1 = 10) : mm_Rst w a 45 = some 239 ∧ mm_K 239 = (14, 4) := by
  have h1 : a < 240 := mm_K_lt (by rw [h]; decide)
  have h2 : ∀ a, a < 240 → (mm_K a).1 = 10 → ¬ (a = 200 ∧ 45 = 2) ∧ (mm_rtab.getD a []).getD 45 none = some 239 ∧ mm_K 239 = (14, 4) := by decide +kernel
  obtain ⟨q1, q2, q3⟩ := h2 a h1 h
  exact ⟨(mm_Rst_eq q1).trans q2, q3⟩
theorem r_a15 {w a j : Nat} (h : (mm_K a).1 = 15) (hj : j < 20) : mm_Rst w a j = some (100 + 5 * j) ∧ (mm_K (100 + 5 * j)).1 = 2 ∧ mm_K a = (15, 20) := by
  have h1 : a < 240 := mm_K_lt (by rw [h]; decide)
  have h2 : ∀ a, a < 240 → (mm_K a).1 = 15 → a = 99 := by decide +kernel
  have h3 : ∀ j, j < 20 → (mm_rtab.getD 99 []).getD j none = some (100 + 5 * j) ∧ (mm_K (100 + 5 * j)).1 = 2 := by decide +kernel
  have h4 := h2 a h1 h
  subst h4
  exact ⟨(mm_Rst_eq (by omega)).trans (h3 j hj).1, (h3 j hj).2, rfl⟩
theorem r_a16 {w a j : Nat} (h : (mm_K a).1 = 16) (hj : j < 7) : mm_Rst w a j = some (12 + 2 * j) ∧ (mm_K (12 + 2 * j)).1 = 5 ∧ mm_K a = (16, 7) := by
  have h1 : a < 240 := mm_K_lt (by rw [h]; decide)
  have h2 : ∀ a, a < 240 → (mm_K a).1 = 16 → a = 11 := by decide +kernel
  have h3 : ∀ j, j < 7 → (mm_rtab.getD 11 []).getD j none = some (12 + 2 * j) ∧ (mm_K (12 + 2 * j)).1 = 5 := by decide +kernel
  have h4 := h2 a h1 h
  subst h4
  exact ⟨(mm_Rst_eq (by omega)).trans (h3 j hj).1, (h3 j hj).2, rfl⟩
theorem r_a17 {w a j : Nat} (h : (mm_K a).1 = 17) (hj : j < 4) : mm_Rst w a j = some (41 + 14 * j) ∧ (mm_K (41 + 14 * j)).1 = 8 ∧ mm_K a = (17, 4) := by
  have h1 : a < 240 := mm_K_lt (by rw [h]; decide)
  have h2 : ∀ a, a < 240 → (mm_K a).1 = 17 → a = 40 := by decide +kernel
  have h3 : ∀ j, j < 4 → (mm_rtab.getD 40 []).getD j none = some (41 + 14 * j) ∧ (mm_K (41 + 14 * j)).1 = 8 := by decide +kernel
  have h4 := h2 a h1 h
  subst h4
  exact ⟨(mm_Rst_eq (by omega)).trans (h3 j hj).1, (h3 j hj).2, rfl⟩
/-! the judgement over that memory: it ends with the value v and the memory τ -/
def sv_Q (v : Value) (τ : mm_S) : Value → mm_M → Prop := fun v' u => (v' = v ∧ u = mm_st τ) ∧ mn u = 240
def SVk (k n0 : Nat) (g : mm_G) (d : Nat) (y : mm_Y) (pc : Nat) (L : mm_L) (st : List Value) (σ : mm_S) (v : Value) (τ : mm_S) : Prop := mm_EV g d y k n0 pc L st (mm_st σ) (sv_Q v τ)
abbrev SV (g : mm_G) (d : Nat) (y : mm_Y) (pc : Nat) (L : mm_L) (st : List Value) (σ : mm_S) (v : Value) (τ : mm_S) : Prop := SVk 0 240 g d y pc L st σ v τ
def SM (g : mm_G) (d : Nat) (y : mm_Y) (av : List Value) (σ : mm_S) (v : Value) (τ : mm_S) : Prop := mm_MV g d y 0 av (mm_st σ) (fun v' u => v' = v ∧ u = mm_st τ)
theorem s_of {g : mm_G} {d : Nat} {y : mm_Y} {av : List Value} {σ : mm_S} {v : Value} {τ : mm_S} (hy : plainName y.1.cls = true) (hlen : (lg_sl (av.map (mm_e g))).length ≤ y.2.2.1) {L : mm_L} (hL : lv_args 0 av = L) (h : SV g d y 0 L [] σ v τ) : SM g d y av σ v τ := by
  subst hL
  exact mm_of_EV hy hlen h
section SVR
variable {g : mm_G} {d : Nat} {y : mm_Y} {k n0 pc : Nat} {L : mm_L} {st : List Value} {σ τ : mm_S} {v : Value}
theorem s_pick {L' : mm_L} (ks : List Nat) (h : ks.filterMap (fun k => L[k]?) = L') (hk : SVk k n0 g d y pc L' st σ v τ) : SVk k n0 g d y pc L st σ v τ := by
  subst h
  refine e_sub (fun q hq => ?_) hk
  obtain ⟨i, -, hi⟩ := List.mem_filterMap.mp hq
  exact List.mem_of_getElem? hi
theorem s_nmi {x e : Int32} (hx : x = e) (hk : SVk k n0 g d y pc L (.int x :: st) σ v τ) : SVk k n0 g d y pc L (.int e :: st) σ v τ := by subst hx; exact hk
theorem s_nml {x e : Int64} (hx : x = e) (hk : SVk k n0 g d y pc L (.long x :: st) σ v τ) : SVk k n0 g d y pc L (.long e :: st) σ v τ := by subst hx; exact hk
theorem s_eqi {x e : Int32} (hx : e = x) (hk : SVk k n0 g d y pc L (.int x :: st) σ v τ) : SVk k n0 g d y pc L (.int e :: st) σ v τ := by subst hx; exact hk
theorem s_ret (hst : st = (match v with | .null => [] | v => [v])) (hn : mm_rn y.2.2.2 v) (hd : decode y.2.1 pc = .ok (mm_ri v, 1)) : SVk k n0 g d y pc L st σ v σ := e_ret hst ⟨⟨rfl, rfl⟩, rfl⟩ hn hd
theorem s_geti {idx c f a : Nat} (hd : decode y.2.1 pc = .ok (.getfield idx, 3)) (hf : mm_fl y.1.cls idx c f 0) (hK : (mm_K a).1 = c) (hk : SVk k n0 g d y (pc + 3) L (.int (σ.1 a f) :: st) σ v τ) : SVk k n0 g d y pc L (.ref a :: st) σ v τ := e_geti hd hf hK (mm_K_lt (by rw [hK]; have := hf.1; omega)) hk
theorem s_getj {idx c f a : Nat} (hd : decode y.2.1 pc = .ok (.getfield idx, 3)) (hf : mm_fl y.1.cls idx c f 1) (hK : (mm_K a).1 = c) (hk : SVk k n0 g d y (pc + 3) L (.long (σ.2.1 a f) :: st) σ v τ) : SVk k n0 g d y pc L (.ref a :: st) σ v τ := e_getj hd hf hK (mm_K_lt (by rw [hK]; have := hf.1; omega)) hk
theorem s_getr {idx c f a r : Nat} (hd : decode y.2.1 pc = .ok (.getfield idx, 3)) (hf : mm_fl y.1.cls idx c f 2) (hK : (mm_K a).1 = c) (hv : mm_Rst σ.2.2 a f = some r) (hk : SVk k n0 g d y (pc + 3) L (.ref r :: st) σ v τ) : SVk k n0 g d y pc L (.ref a :: st) σ v τ := e_getr hd hf hK (mm_K_lt (by rw [hK]; have := hf.1; omega)) hv hk
theorem s_puti {idx c f a : Nat} {x : Int32} (hd : decode y.2.1 pc = .ok (.putfield idx, 3)) (hf : mm_fl y.1.cls idx c f 0) (hK : (mm_K a).1 = c) (hfin : ((mm_C c).2.1 f).2.2.2 = false) (hn : narrow (mm_ty c f) (.int x) = .int x) (hfit : fits (mm_ty c f) (.int x) = true) (hk : SVk k n0 g d y (pc + 3) L st (su_i σ a f x) v τ) : SVk k n0 g d y pc L (.int x :: .ref a :: st) σ v τ := e_puti hd hf hK (mm_K_lt (by rw [hK]; have := hf.1; omega)) hfin hn hfit hk
theorem s_putj {idx c f a : Nat} {x : Int64} (hd : decode y.2.1 pc = .ok (.putfield idx, 3)) (hf : mm_fl y.1.cls idx c f 1) (hK : (mm_K a).1 = c) (hfin : ((mm_C c).2.1 f).2.2.2 = false) (hn : mm_ty c f = .long) (hk : SVk k n0 g d y (pc + 3) L st (su_j σ a f x) v τ) : SVk k n0 g d y pc L (.long x :: .ref a :: st) σ v τ := e_putj hd hf hK (mm_K_lt (by rw [hK]; have := hf.1; omega)) hfin hn hk
theorem mm_st_w (σ : mm_S) (x : Nat) : mu_r (mm_st σ) 200 2 (some x) = mm_st (su_w σ x) := by
  have : (fun i j => if i = 200 ∧ j = 2 then some x else mm_Rst σ.2.2 i j) = mm_Rst x := by
    funext i j
    by_cases h : i = 200 ∧ j = 2
    · rw [if_pos h]
      exact (if_pos h).symm
    · rw [if_neg h, mm_Rst_eq h, mm_Rst_eq h]
  show (σ.1, σ.2.1, (fun i j => if i = 200 ∧ j = 2 then some x else mm_Rst σ.2.2 i j), 240) = (σ.1, σ.2.1, mm_Rst x, 240)
  rw [this]
theorem s_putw {idx x : Nat} (hd : decode y.2.1 pc = .ok (.putfield idx, 3)) (hf : mm_fl y.1.cls idx 7 2 2) (hk : SVk k n0 g d y (pc + 3) L st (su_w σ x) v τ) : SVk k n0 g d y pc L (.ref x :: .ref 200 :: st) σ v τ := e_putr (c := 7) hd hf rfl (by show 200 < 240; decide) rfl ⟨rfl, fun _ => ⟨rfl, rfl⟩⟩ (by rw [mm_st_w]; exact hk)
theorem s_getw {idx : Nat} (hd : decode y.2.1 pc = .ok (.getfield idx, 3)) (hf : mm_fl y.1.cls idx 7 2 2) (hk : SVk k n0 g d y (pc + 3) L (.ref σ.2.2 :: st) σ v τ) : SVk k n0 g d y pc L (.ref 200 :: st) σ v τ := s_getr hd hf rfl rfl hk
theorem s_iald {a n : Nat} {j : Int32} (hd : decode y.2.1 pc = .ok (.iaload, 1)) (hK : mm_K a = (12, n)) (hin : vp_in j n) (hk : SVk k n0 g d y (pc + 1) L (.int (σ.1 a j.toNatClampNeg) :: st) σ v τ) : SVk k n0 g d y pc L (.int j :: .ref a :: st) σ v τ := e_iald hd hK (mm_K_lt (by rw [hK]; show 12 < 18; decide)) hin hk
theorem s_bald {a n : Nat} {j : Int32} (hd : decode y.2.1 pc = .ok (.baload, 1)) (hK : mm_K a = (11, n)) (hin : vp_in j n) (hk : SVk k n0 g d y (pc + 1) L (.int (σ.1 a j.toNatClampNeg) :: st) σ v τ) : SVk k n0 g d y pc L (.int j :: .ref a :: st) σ v τ := e_bald hd hK (mm_K_lt (by rw [hK]; show 11 < 18; decide)) hin hk
theorem s_zald {a n : Nat} {j : Int32} (hd : decode y.2.1 pc = .ok (.baload, 1)) (hK : mm_K a = (14, n)) (hin : vp_in j n) (hk : SVk k n0 g d y (pc + 1) L (.int (σ.1 a j.toNatClampNeg) :: st) σ v τ) : SVk k n0 g d y pc L (.int j :: .ref a :: st) σ v τ := e_zald hd hK (mm_K_lt (by rw [hK]; show 14 < 18; decide)) hin hk
theorem s_lald {a n : Nat} {j : Int32} (hd : decode y.2.1 pc = .ok (.laload, 1)) (hK : mm_K a = (13, n)) (hin : vp_in j n) (hk : SVk k n0 g d y (pc + 1) L (.long (σ.2.1 a j.toNatClampNeg) :: st) σ v τ) : SVk k n0 g d y pc L (.int j :: .ref a :: st) σ v τ := e_lald hd hK (mm_K_lt (by rw [hK]; show 13 < 18; decide)) hin hk
theorem s_iast {a n : Nat} {j : Int32} {x : Int32} (hd : decode y.2.1 pc = .ok (.iastore, 1)) (hK : mm_K a = (12, n)) (hin : vp_in j n) (hk : SVk k n0 g d y (pc + 1) L st (su_i σ a j.toNatClampNeg x) v τ) : SVk k n0 g d y pc L (.int x :: .int j :: .ref a :: st) σ v τ := e_iast hd hK (mm_K_lt (by rw [hK]; show 12 < 18; decide)) hin hk
theorem s_bast {a n : Nat} {j : Int32} {x : Int32} (hd : decode y.2.1 pc = .ok (.bastore, 1)) (hK : mm_K a = (11, n)) (hin : vp_in j n) (hk : SVk k n0 g d y (pc + 1) L st (su_i σ a j.toNatClampNeg (vp_nar .byte x)) v τ) : SVk k n0 g d y pc L (.int x :: .int j :: .ref a :: st) σ v τ := e_bast hd hK (mm_K_lt (by rw [hK]; show 11 < 18; decide)) hin hk
theorem s_zast {a n : Nat} {j : Int32} {x : Int32} (hd : decode y.2.1 pc = .ok (.bastore, 1)) (hK : mm_K a = (14, n)) (hin : vp_in j n) (hk : SVk k n0 g d y (pc + 1) L st (su_i σ a j.toNatClampNeg (vp_nar .boolean x)) v τ) : SVk k n0 g d y pc L (.int x :: .int j :: .ref a :: st) σ v τ := e_zast hd hK (mm_K_lt (by rw [hK]; show 14 < 18; decide)) hin hk
theorem s_last {a n : Nat} {j : Int32} {x : Int64} (hd : decode y.2.1 pc = .ok (.lastore, 1)) (hK : mm_K a = (13, n)) (hin : vp_in j n) (hk : SVk k n0 g d y (pc + 1) L st (su_j σ a j.toNatClampNeg x) v τ) : SVk k n0 g d y pc L (.long x :: .int j :: .ref a :: st) σ v τ := e_last hd hK (mm_K_lt (by rw [hK]; show 13 < 18; decide)) hin hk
theorem s_aald15 {a : Nat} {j : Int32} (hd : decode y.2.1 pc = .ok (.aaload, 1)) (hK : (mm_K a).1 = 15) (hin : vp_in j 20) (hk : SVk k n0 g d y (pc + 1) L (.ref (100 + 5 * j.toNatClampNeg) :: st) σ v τ) : SVk k n0 g d y pc L (.int j :: .ref a :: st) σ v τ := by
  have hj : j.toNatClampNeg < 20 := Nat.lt_of_not_le (fun h => hin (Or.inr h))
  exact e_aald15 hd (r_a15 (w := 0) hK hj).2.2 (mm_K_lt (by rw [hK]; decide)) hin (r_a15 hK hj).1 hk
theorem s_aald16 {a : Nat} {j : Int32} (hd : decode y.2.1 pc = .ok (.aaload, 1)) (hK : (mm_K a).1 = 16) (hin : vp_in j 7) (hk : SVk k n0 g d y (pc + 1) L (.ref (12 + 2 * j.toNatClampNeg) :: st) σ v τ) : SVk k n0 g d y pc L (.int j :: .ref a :: st) σ v τ := by
  have hj : j.toNatClampNeg < 7 := Nat.lt_of_not_le (fun h => hin (Or.inr h))
  exact e_aald16 hd (r_a16 (w := 0) hK hj).2.2 (mm_K_lt (by rw [hK]; decide)) hin (r_a16 hK hj).1 hk
theorem s_aald17 {a : Nat} {j : Int32} (hd : decode y.2.1 pc = .ok (.aaload, 1)) (hK : (mm_K a).1 = 17) (hin : vp_in j 4) (hk : SVk k n0 g d y (pc + 1) L (.ref (41 + 14 * j.toNatClampNeg) :: st) σ v τ) : SVk k n0 g d y pc L (.int j :: .ref a :: st) σ v τ := by
  have hj : j.toNatClampNeg < 4 := Nat.lt_of_not_le (fun h => hin (Or.inr h))
  exact e_aald17 hd (r_a17 (w := 0) hK hj).2.2 (mm_K_lt (by rw [hK]; decide)) hin (r_a17 hK hj).1 hk
theorem s_alen {a c n : Nat} {w : Int32} (hd : decode y.2.1 pc = .ok (.arraylength, 1)) (hK : mm_K a = (c, n)) (hc : 11 ≤ c ∧ c < 18) (hv : Int32.ofNat n = w) (hk : SVk k n0 g d y (pc + 1) L (.int w :: st) σ v τ) : SVk k n0 g d y pc L (.ref a :: st) σ v τ := e_alen hd hK hc (mm_K_lt (by rw [hK]; exact hc.2)) hv hk
theorem s_callVv {z : mm_Y} {idx : Nat} {a ci : Nat} (av : List Value) {st0 : List Value} {σ' : mm_S} (hd : decode y.2.1 pc = .ok (.invokevirtual idx, 3)) (hl0 : mm_mlV y.1.cls idx z ci av.length) (hK : (mm_K a).1 = ci) (hret : z.2.2.2 = none) (hst : st0 = av.reverse ++ .ref a :: st) (hM : SM g d z (.ref a :: av) σ (.null) σ') (hw : (st.map fun v => v.category).sum ≤ 8) (hk : SVk k n0 g (d + 1) y (pc + 3) L (st) σ' v τ) (hc : n0 ≤ 240 ∧ 240 ≤ n0 + k := by decide) : SVk k n0 g (d + 1) y pc L st0 σ v τ := by
  refine e_callVv (kz := 0) hd hl0 hK (mm_K_lt (by rw [hK]; have := hl0.1; omega)) hret hst hM hc.1 hc.2 hw (fun u hq _ => ?_)
  obtain ⟨h1, rfl⟩ := hq
  skip
  exact hk
theorem s_callSv {z : mm_Y} {idx : Nat}  (av : List Value) {st0 : List Value} {σ' : mm_S} (hd : decode y.2.1 pc = .ok (.invokestatic idx, 3)) (hl0 : mm_mlS y.1.cls idx z av.length) (hret : z.2.2.2 = none) (hst : st0 = av.reverse ++ st) (hM : SM g d z (av) σ (.null) σ') (hw : (st.map fun v => v.category).sum ≤ 8) (hk : SVk k n0 g (d + 1) y (pc + 3) L (st) σ' v τ) (hc : n0 ≤ 240 ∧ 240 ≤ n0 + k := by decide) : SVk k n0 g (d + 1) y pc L st0 σ v τ := by
  refine e_callSv (kz := 0) hd hl0 hret hst hM hc.1 hc.2 hw (fun u hq _ => ?_)
  obtain ⟨h1, rfl⟩ := hq
  skip
  exact hk
theorem s_callVi {z : mm_Y} {idx : Nat} {a ci : Nat} (av : List Value) {st0 : List Value} {x : Int32} {σ' : mm_S} (hd : decode y.2.1 pc = .ok (.invokevirtual idx, 3)) (hl0 : mm_mlV y.1.cls idx z ci av.length) (hK : (mm_K a).1 = ci) (hret : ∃ ty, z.2.2.2 = some ty ∧ ty ≠ .long) (hst : st0 = av.reverse ++ .ref a :: st) (hM : SM g d z (.ref a :: av) σ (.int x) σ') (hw : (st.map fun v => v.category).sum ≤ 8) (hk : SVk k n0 g (d + 1) y (pc + 3) L (.int x :: st) σ' v τ) (hc : n0 ≤ 240 ∧ 240 ≤ n0 + k := by decide) : SVk k n0 g (d + 1) y pc L st0 σ v τ := by
  refine e_callVi (kz := 0) hd hl0 hK (mm_K_lt (by rw [hK]; have := hl0.1; omega)) hret hst hM hc.1 hc.2 hw (fun x' u hq _ => ?_)
  obtain ⟨h1, rfl⟩ := hq
  cases h1
  exact hk
theorem s_callSi {z : mm_Y} {idx : Nat}  (av : List Value) {st0 : List Value} {x : Int32} {σ' : mm_S} (hd : decode y.2.1 pc = .ok (.invokestatic idx, 3)) (hl0 : mm_mlS y.1.cls idx z av.length) (hret : ∃ ty, z.2.2.2 = some ty ∧ ty ≠ .long) (hst : st0 = av.reverse ++ st) (hM : SM g d z (av) σ (.int x) σ') (hw : (st.map fun v => v.category).sum ≤ 8) (hk : SVk k n0 g (d + 1) y (pc + 3) L (.int x :: st) σ' v τ) (hc : n0 ≤ 240 ∧ 240 ≤ n0 + k := by decide) : SVk k n0 g (d + 1) y pc L st0 σ v τ := by
  refine e_callSi (kz := 0) hd hl0 hret hst hM hc.1 hc.2 hw (fun x' u hq _ => ?_)
  obtain ⟨h1, rfl⟩ := hq
  cases h1
  exact hk
theorem s_callVl {z : mm_Y} {idx : Nat} {a ci : Nat} (av : List Value) {st0 : List Value} {x : Int64} {σ' : mm_S} (hd : decode y.2.1 pc = .ok (.invokevirtual idx, 3)) (hl0 : mm_mlV y.1.cls idx z ci av.length) (hK : (mm_K a).1 = ci) (hret : z.2.2.2 = some .long) (hst : st0 = av.reverse ++ .ref a :: st) (hM : SM g d z (.ref a :: av) σ (.long x) σ') (hw : (st.map fun v => v.category).sum ≤ 8) (hk : SVk k n0 g (d + 1) y (pc + 3) L (.long x :: st) σ' v τ) (hc : n0 ≤ 240 ∧ 240 ≤ n0 + k := by decide) : SVk k n0 g (d + 1) y pc L st0 σ v τ := by
  refine e_callVl (kz := 0) hd hl0 hK (mm_K_lt (by rw [hK]; have := hl0.1; omega)) hret hst hM hc.1 hc.2 hw (fun x' u hq _ => ?_)
  obtain ⟨h1, rfl⟩ := hq
  cases h1
  exact hk
theorem s_callSl {z : mm_Y} {idx : Nat}  (av : List Value) {st0 : List Value} {x : Int64} {σ' : mm_S} (hd : decode y.2.1 pc = .ok (.invokestatic idx, 3)) (hl0 : mm_mlS y.1.cls idx z av.length) (hret : z.2.2.2 = some .long) (hst : st0 = av.reverse ++ st) (hM : SM g d z (av) σ (.long x) σ') (hw : (st.map fun v => v.category).sum ≤ 8) (hk : SVk k n0 g (d + 1) y (pc + 3) L (.long x :: st) σ' v τ) (hc : n0 ≤ 240 ∧ 240 ≤ n0 + k := by decide) : SVk k n0 g (d + 1) y pc L st0 σ v τ := by
  refine e_callSl (kz := 0) hd hl0 hret hst hM hc.1 hc.2 hw (fun x' u hq _ => ?_)
  obtain ⟨h1, rfl⟩ := hq
  cases h1
  exact hk
end SVR
/-! the functions' words -/
def lp {V ρ : Type} : Nat → ((V → mm_S → Option ρ) → V → mm_S → Option ρ) → V → mm_S → Option ρ
  | 0, _, _, _ => none
  | n + 1, F, v, σ => F (lp n F) v σ
theorem lp_ind {V ρ : Type} {F : (V → mm_S → Option ρ) → V → mm_S → Option ρ} {res : ρ} {P : V → mm_S → Prop} (step : ∀ self : V → mm_S → Option ρ, (∀ v σ, self v σ = some res → P v σ) → ∀ v σ, F self v σ = some res → P v σ) : ∀ n v σ, lp n F v σ = some res → P v σ := by
  intro n
  induction n with
  | zero => intro v σ h; cases h
  | succ n ih => intro v σ h; exact step _ ih v σ h
def lpN : Nat := 1000000
def lt {α ρ : Type} (x : α) (k : α → Option ρ) : Option ρ := k x
theorem lt_some {α ρ : Type} {x : α} {k : α → Option ρ} {r : ρ} (h : lt x k = some r) : ∃ z, z = x ∧ k z = some r := ⟨x, rfl, h⟩
def bd {α ρ : Type} (x : Option (α × mm_S)) (k : α → mm_S → Option ρ) : Option ρ := match x with
  | none => none
  | some q => k q.1 q.2
theorem bd_some {α ρ : Type} {x : Option (α × mm_S)} {k : α → mm_S → Option ρ} {r : ρ} (h : bd x k = some r) : ∃ a σ, x = some (a, σ) ∧ k a σ = some r := by
  cases x with
  | none => cases h
  | some q => exact ⟨q.1, q.2, rfl, h⟩
def bv {ρ : Type} (x : Option mm_S) (k : mm_S → Option ρ) : Option ρ := match x with
  | none => none
  | some q => k q
theorem bv_some {ρ : Type} {x : Option mm_S} {k : mm_S → Option ρ} {r : ρ} (h : bv x k = some r) : ∃ σ, x = some σ ∧ k σ = some r := by
  cases x with
  | none => cases h
  | some q => exact ⟨q, rfl, h⟩
def gd {ρ : Type} (j : Int32) (n : Nat) (x : Option ρ) : Option ρ := if j < 0 ∨ n ≤ j.toNatClampNeg then none else x
theorem gd_some {ρ : Type} {j : Int32} {n : Nat} {x : Option ρ} {r : ρ} (h : gd j n x = some r) : vp_in j n ∧ x = some r := by
  unfold gd at h
  by_cases hc : j < 0 ∨ n ≤ j.toNatClampNeg
  · rw [if_pos hc] at h
    cases h
  · rw [if_neg hc] at h
    exact ⟨hc, h⟩
def gz {ρ : Type} (b : Bool) (x : Option ρ) : Option ρ := if b = true then x else none
theorem gz_some {ρ : Type} {b : Bool} {x : Option ρ} {r : ρ} (h : gz b x = some r) : b = true ∧ x = some r := by
  unfold gz at h
  by_cases hc : b = true
  · rw [if_pos hc] at h
    exact ⟨hc, h⟩
  · rw [if_neg hc] at h
    cases h
