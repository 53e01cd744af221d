/-! A ROAD IS MADE -/
theorem zArr_o {b i k n u j : Int} {σ : mS} (hu : u ≤ σ.2.2.1) (h : u ≠ b ∨ j ≠ i) : (zArr b i k n σ).1 u j = σ.1 u j := by
  rw [zArr_v]
  by_cases c : u = b
  · rw [if_pos c, if_neg (by omega), if_neg (by omega)]
  · rw [if_neg c, if_neg (by omega)]
theorem zArr_same {b i k n : Int} {σ : mS} : (zArr b i k n σ).1 b i = σ.2.2.1 + 1 := by rw [zArr_v, if_pos rfl, if_pos rfl]
theorem zArr_ko {b i k n u : Int} {σ : mS} (hu : u ≤ σ.2.2.1) : (zArr b i k n σ).2.1 u = σ.2.1 u := by rw [zArr_k, if_neg (by omega)]
theorem zArr_kn {b i k n : Int} {σ : mS} : (zArr b i k n σ).2.1 (σ.2.2.1 + 1) = (k, n) := by rw [zArr_k, if_pos rfl]
theorem zArr_0 {b i k n j : Int} {σ : mS} (hb : b ≤ σ.2.2.1) : (zArr b i k n σ).1 (σ.2.2.1 + 1) j = 0 := by rw [zArr_v, if_neg (by omega), if_pos rfl]
