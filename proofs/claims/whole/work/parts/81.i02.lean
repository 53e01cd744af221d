/-! QUESTIONS: both programs answer the same, and all holds behind -/
def zStp (k : Nat) (F G : mS → Option (Int × mS)) : Prop := ∀ (D : Int → (Int → Int) → Int) (A : Int → Int) (σ : mS), zInv k D A σ → wpo (F σ) (fun q => wpo (G q.2) (fun z => z.1 = q.1 ∧ ∃ D' A', zInv (k + 1) D' A' z.2))
theorem zStp_q {k : Nat} {F G : mS → Option (Int × mS)} (h : ∀ (D : Int → (Int → Int) → Int) (A : Int → Int), ∃ a, (∀ σ, zQ D A σ → wpo (F σ) (fun q => zQ D A q.2 ∧ zKc σ q.2 ∧ q.1 = a)) ∧ ∀ σ, zMQ D A σ → wpo (G σ) (fun q => zMQ D A q.2 ∧ zKm σ q.2 ∧ q.1 = a)) : zStp k F G := by
  intro D A σ hI
  obtain ⟨a, h1, h2⟩ := h D A
  refine wpo_mono (zAsk hI (h1 σ hI.1) h2) ?_
  intro q hq
  refine wpo_mono hq ?_
  intro z ⟨z1, z2⟩
  exact ⟨z1, D, A, zInv_up z2⟩
theorem s_warm (k : Nat) (p i hr : Int) : zStp k (M_RW_warm 1 p i hr) (M_Mo_warm 68 p i hr) := zStp_q (fun D A => ⟨_, fun σ h => c_warm h, fun σ h => m_warm h⟩)
theorem s_ray (k : Nat) (a w : Int) : zStp k (M_RW_ray 1 a w) (M_Mo_ray 68 a w) := zStp_q (fun D A => ⟨_, fun σ h => c_ray h, fun σ h => m_ray h⟩)
theorem s_at (k : Nat) (a p : Int) : zStp k (M_RW_at 1 a p) (M_Mo_at 68 a p) := zStp_q (fun D A => ⟨_, fun σ h => c_at h, fun σ h => m_at h⟩)
theorem s_seen (k : Nat) (t : Int) : zStp k (M_RW_seen 1 t) (M_Mo_seen 68 t) := zStp_q (fun D A => ⟨_, fun σ h => c_seen h, fun σ h => m_seen h⟩)
theorem s_pictures (k : Nat) (t : Int) : zStp k (M_RW_pictures 1 t) (M_Mo_pictures 68 t) := zStp_q (fun D A => ⟨_, fun σ h => c_pictures h, fun σ h => m_pictures h⟩)
theorem s_hidden (k : Nat) (t : Int) : zStp k (M_RW_hidden 1 t) (M_Mo_hidden 68 t) := zStp_q (fun D A => ⟨_, fun σ h => c_hidden h, fun σ h => m_hidden h⟩)
theorem s_water (k : Nat) (w : Int) : zStp k (M_RW_water 1 w) (M_Mo_water 68 w) := zStp_q (fun D A => ⟨_, fun σ h => c_water h, fun σ h => m_water h⟩)
theorem s_horizon (k : Nat) : zStp k (M_RW_horizon 1) (M_Mo_horizon 68) := zStp_q (fun D A => ⟨_, fun σ h => c_horizon h, fun σ h => m_horizon h⟩)
theorem s_aim (k : Nat) (t i : Int) : zStp k (M_RW_aim 1 t i) (M_Mo_aim 68 t i) := zStp_q (fun D A => ⟨_, fun σ h => c_aim h, fun σ h => m_aim h⟩)
theorem s_loom (k : Nat) (t i : Int) : zStp k (M_RW_loom 1 t i) (M_Mo_loom 68 t i) := zStp_q (fun D A => ⟨_, fun σ h => c_loom h, fun σ h => m_loom h⟩)
theorem s_shade (k : Nat) (p : Int) : zStp k (M_RW_shade 1 p) (M_Mo_shade 68 p) := zStp_q (fun D A => ⟨_, fun σ h => c_shade h, fun σ h => m_shade h⟩)
theorem s_cross (k : Nat) (x y : Int) : zStp k (M_RW_cross 1 x y) (M_Mo_cross 68 x y) := zStp_q (fun D A => ⟨_, fun σ h => c_cross h, fun σ h => m_cross h⟩)
theorem s_hours (k : Nat) (t : Int) : zStp k (M_RW_hours 1 t) (M_Mo_hours 68 t) := zStp_q (fun D A => ⟨_, fun σ h => c_hours h, fun σ h => m_hours h⟩)
theorem s_level (k : Nat) (p : Int) : zStp k (M_RW_level 1 p) (M_Mo_level 68 p) := zStp_q (fun D A => ⟨_, fun σ h => c_level h, fun σ h => m_level h⟩)
theorem s_best (k : Nat) (p : Int) : zStp k (M_RW_best 1 p) (M_Mo_best 68 p) := zStp_q (fun D A => ⟨_, fun σ h => c_best h, fun σ h => m_best h⟩)
theorem s_eyes (k : Nat) (t w : Int) : zStp k (M_RW_eyes 1 t w) (M_Mo_eyes 68 t w) := zStp_q (fun D A => ⟨_, fun σ h => c_eyes h, fun σ h => m_eyes h⟩)
theorem s_where (k : Nat) (tall n : Int) : zStp k (M_RW_where 1 tall n) (M_Mo_where 68 tall n) := zStp_q (fun D A => ⟨_, fun σ h => c_where h, fun σ h => m_where h⟩)
theorem s_wrong (k : Nat) (hr : Int) : zStp k (M_RW_wrong 1 hr) (M_Mo_wrong 68 hr) := zStp_q (fun D A => ⟨_, fun σ h => c_wrong h, fun σ h => m_wrong h⟩)
theorem s_fits (k : Nat) : zStp k (M_RW_fits 1) (M_Mo_fits 68) := zStp_q (fun D A => ⟨_, fun σ h => c_fits h, fun σ h => m_fits h⟩)
theorem s_likely (k : Nat) : zStp k (M_RW_likely 1) (M_Mo_likely 68) := zStp_q (fun D A => ⟨_, fun σ h => c_likely h, fun σ h => m_likely h⟩)
theorem s_picture (k : Nat) (t i w : Int) (hi : i ≤ 2147483647) : zStp k (M_RW_picture 1 t i w) (M_Mo_picture 68 t i w) := zStp_q (fun D A => ⟨_, fun σ h => c_picture h, fun σ h => m_picture h hi⟩)
theorem s_mark (k : Nat) (tall w : Int) : zStp k (M_RW_mark 1 tall w) (M_Mo_mark 68 tall w) := zStp_q (fun D A => ⟨_, fun σ h => c_mark h, fun σ h => by rw [aMark_eq]; exact m_mark h⟩)
