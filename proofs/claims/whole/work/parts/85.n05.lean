/-! BOTH CONSTRUCTORS: cells 1 to 90 -/
def zFT (σ0 : mS) : Prop := σ0.2.1 (-2) = (100, 4) ∧ σ0.1 (-2) 0 = 12 ∧ σ0.1 (-2) 1 = 1 ∧ σ0.1 (-2) 2 = 0 ∧ σ0.1 (-2) 3 = 16
def zV1 : List (Int × Int × Int) := [(2, 9, -1), (8, 0, 12), (8, 1, 1), (8, 2, 0), (8, 3, 16), (5, -1, -1), (2, 12, 12), (2, 11, 11), (2, 10, 10), (2, 7, 9), (2, 6, 8), (2, 4, 7), (2, 3, 6), (2, 2, 5), (2, 1, 4), (2, 0, 3)]
set_option maxHeartbeats 4000000 in
theorem i_Road_2 {σ0 σ : mS} (g : zFT σ0) (h : zRp σ0 zX0 2 [] 30 σ) : wpo (M_Road_init 2 σ) (fun p => p.1 = 0 ∧ zRp σ0 zX0 12 zV1 284 p.2) := by
  unfold M_Road_init
  refine t_gk h (by decide +kernel) ?_
  refine t_na (m := 3) (s' := 94) 3 h rfl rfl (by decide) rfl rfl fun σ h => ?_
  refine t_pf _ h (by decide +kernel) rfl fun σ h => ?_
  refine t_na (m := 4) (s' := 158) 4 h rfl rfl (by decide) rfl rfl fun σ h => ?_
  refine t_pf _ h (by decide +kernel) rfl fun σ h => ?_
  refine t_na (m := 5) (s' := 222) 5 h rfl rfl (by decide) rfl rfl fun σ h => ?_
  refine t_pf _ h (by decide +kernel) rfl fun σ h => ?_
  refine t_na (m := 6) (s' := 230) 6 h rfl rfl (by decide) rfl rfl fun σ h => ?_
  refine t_pf _ h (by decide +kernel) rfl fun σ h => ?_
  refine t_na (m := 7) (s' := 238) 7 h rfl rfl (by decide) rfl rfl fun σ h => ?_
  refine t_pf _ h (by decide +kernel) rfl fun σ h => ?_
  refine t_na (m := 8) (s' := 242) 8 h rfl rfl (by decide) rfl rfl fun σ h => ?_
  refine t_pf _ h (by decide +kernel) rfl fun σ h => ?_
  refine t_na (m := 9) (s' := 248) 9 h rfl rfl (by decide) rfl rfl fun σ h => ?_
  refine t_pf _ h (by decide +kernel) rfl fun σ h => ?_
  refine t_na (m := 10) (s' := 260) 10 h rfl rfl (by decide) rfl rfl fun σ h => ?_
  refine t_pf _ h (by decide +kernel) rfl fun σ h => ?_
  refine t_na (m := 11) (s' := 272) 11 h rfl rfl (by decide) rfl rfl fun σ h => ?_
  refine t_pf _ h (by decide +kernel) rfl fun σ h => ?_
  refine t_na (m := 12) (s' := 284) 12 h rfl rfl (by decide) rfl rfl fun σ h => ?_
  refine t_pf _ h (by decide +kernel) rfl fun σ h => ?_
  refine t_gf 5 h (by decide +kernel) ?_
  refine t_fill _ h (by decide +kernel) rfl fun p h => ?_
  refine t_gf 8 h (by decide +kernel) ?_
  refine t_cpy _ h g (by decide) (by decide) (by decide) rfl rfl fun σ h => ?_
  refine t_pf _ h (by decide +kernel) rfl fun σ h => ?_
  exact wpo_some.mpr ⟨rfl, h⟩
def zV2 : List (Int × Int × Int) := (1, 1, 13) :: (1, 0, 2) :: zV1
def zV3 : List (Int × Int × Int) := (14, 9, -1) :: (20, 0, 12) :: (20, 1, 1) :: (20, 2, 0) :: (20, 3, 16) :: (17, -1, -1) :: (14, 12, 24) :: (14, 11, 23) :: (14, 10, 22) :: (14, 7, 21) :: (14, 6, 20) :: (14, 4, 19) :: (14, 3, 18) :: (14, 2, 17) :: (14, 1, 16) :: (14, 0, 15) :: zV2
set_option maxHeartbeats 4000000 in
theorem i_Road_14 {σ0 σ : mS} (g : zFT σ0) (h : zRp σ0 zX0 14 zV2 300 σ) : wpo (M_Road_init 14 σ) (fun p => p.1 = 0 ∧ zRp σ0 zX0 24 zV3 554 p.2) := by
  unfold M_Road_init
  refine t_gk h (by decide +kernel) ?_
  refine t_na (m := 15) (s' := 364) 15 h rfl rfl (by decide) rfl rfl fun σ h => ?_
  refine t_pf _ h (by decide +kernel) rfl fun σ h => ?_
  refine t_na (m := 16) (s' := 428) 16 h rfl rfl (by decide) rfl rfl fun σ h => ?_
  refine t_pf _ h (by decide +kernel) rfl fun σ h => ?_
  refine t_na (m := 17) (s' := 492) 17 h rfl rfl (by decide) rfl rfl fun σ h => ?_
  refine t_pf _ h (by decide +kernel) rfl fun σ h => ?_
  refine t_na (m := 18) (s' := 500) 18 h rfl rfl (by decide) rfl rfl fun σ h => ?_
  refine t_pf _ h (by decide +kernel) rfl fun σ h => ?_
  refine t_na (m := 19) (s' := 508) 19 h rfl rfl (by decide) rfl rfl fun σ h => ?_
  refine t_pf _ h (by decide +kernel) rfl fun σ h => ?_
  refine t_na (m := 20) (s' := 512) 20 h rfl rfl (by decide) rfl rfl fun σ h => ?_
  refine t_pf _ h (by decide +kernel) rfl fun σ h => ?_
  refine t_na (m := 21) (s' := 518) 21 h rfl rfl (by decide) rfl rfl fun σ h => ?_
  refine t_pf _ h (by decide +kernel) rfl fun σ h => ?_
  refine t_na (m := 22) (s' := 530) 22 h rfl rfl (by decide) rfl rfl fun σ h => ?_
  refine t_pf _ h (by decide +kernel) rfl fun σ h => ?_
  refine t_na (m := 23) (s' := 542) 23 h rfl rfl (by decide) rfl rfl fun σ h => ?_
  refine t_pf _ h (by decide +kernel) rfl fun σ h => ?_
  refine t_na (m := 24) (s' := 554) 24 h rfl rfl (by decide) rfl rfl fun σ h => ?_
  refine t_pf _ h (by decide +kernel) rfl fun σ h => ?_
  refine t_gf 17 h (by decide +kernel) ?_
  refine t_fill _ h (by decide +kernel) rfl fun p h => ?_
  refine t_gf 20 h (by decide +kernel) ?_
  refine t_cpy _ h g (by decide) (by decide) (by decide) rfl rfl fun σ h => ?_
  refine t_pf _ h (by decide +kernel) rfl fun σ h => ?_
  exact wpo_some.mpr ⟨rfl, h⟩
def zV4 : List (Int × Int × Int) := (13, 0, 14) :: zV3
set_option maxHeartbeats 4000000 in
theorem i_RWb0 {σ0 σ : mS} (g : zFT σ0) (h : zRp σ0 zX0 13 zV2 286 σ) : wpo (B_RW_init_13 1 0 σ) (fun z => ∃ σ', z = Sum.inl (1, σ') ∧ zRp σ0 zX0 24 zV4 554 σ') := by
  unfold B_RW_init_13
  rw [if_pos (by decide)]
  refine t_gf 13 h (by decide +kernel) ?_
  refine t_new (m := 14) (s' := 300) 14 h rfl rfl rfl rfl fun σ h => ?_
  refine t_gk h (by decide +kernel) ?_
  refine t_call (i_Road_14 g h) ?_
  intro p ⟨hp, h⟩
  refine t_sr _ h (by decide +kernel) (by decide +kernel) rfl fun σ h => ?_
  exact wpo_some.mpr ⟨_, rfl, h⟩
def zV5 : List (Int × Int × Int) := (25, 9, -1) :: (31, 0, 12) :: (31, 1, 1) :: (31, 2, 0) :: (31, 3, 16) :: (28, -1, -1) :: (25, 12, 35) :: (25, 11, 34) :: (25, 10, 33) :: (25, 7, 32) :: (25, 6, 31) :: (25, 4, 30) :: (25, 3, 29) :: (25, 2, 28) :: (25, 1, 27) :: (25, 0, 26) :: zV4
set_option maxHeartbeats 4000000 in
theorem i_Road_25 {σ0 σ : mS} (g : zFT σ0) (h : zRp σ0 zX0 25 zV4 568 σ) : wpo (M_Road_init 25 σ) (fun p => p.1 = 0 ∧ zRp σ0 zX0 35 zV5 822 p.2) := by
  unfold M_Road_init
  refine t_gk h (by decide +kernel) ?_
  refine t_na (m := 26) (s' := 632) 26 h rfl rfl (by decide) rfl rfl fun σ h => ?_
  refine t_pf _ h (by decide +kernel) rfl fun σ h => ?_
  refine t_na (m := 27) (s' := 696) 27 h rfl rfl (by decide) rfl rfl fun σ h => ?_
  refine t_pf _ h (by decide +kernel) rfl fun σ h => ?_
  refine t_na (m := 28) (s' := 760) 28 h rfl rfl (by decide) rfl rfl fun σ h => ?_
  refine t_pf _ h (by decide +kernel) rfl fun σ h => ?_
  refine t_na (m := 29) (s' := 768) 29 h rfl rfl (by decide) rfl rfl fun σ h => ?_
  refine t_pf _ h (by decide +kernel) rfl fun σ h => ?_
  refine t_na (m := 30) (s' := 776) 30 h rfl rfl (by decide) rfl rfl fun σ h => ?_
  refine t_pf _ h (by decide +kernel) rfl fun σ h => ?_
  refine t_na (m := 31) (s' := 780) 31 h rfl rfl (by decide) rfl rfl fun σ h => ?_
  refine t_pf _ h (by decide +kernel) rfl fun σ h => ?_
  refine t_na (m := 32) (s' := 786) 32 h rfl rfl (by decide) rfl rfl fun σ h => ?_
  refine t_pf _ h (by decide +kernel) rfl fun σ h => ?_
  refine t_na (m := 33) (s' := 798) 33 h rfl rfl (by decide) rfl rfl fun σ h => ?_
  refine t_pf _ h (by decide +kernel) rfl fun σ h => ?_
  refine t_na (m := 34) (s' := 810) 34 h rfl rfl (by decide) rfl rfl fun σ h => ?_
  refine t_pf _ h (by decide +kernel) rfl fun σ h => ?_
  refine t_na (m := 35) (s' := 822) 35 h rfl rfl (by decide) rfl rfl fun σ h => ?_
  refine t_pf _ h (by decide +kernel) rfl fun σ h => ?_
  refine t_gf 28 h (by decide +kernel) ?_
  refine t_fill _ h (by decide +kernel) rfl fun p h => ?_
  refine t_gf 31 h (by decide +kernel) ?_
  refine t_cpy _ h g (by decide) (by decide) (by decide) rfl rfl fun σ h => ?_
  refine t_pf _ h (by decide +kernel) rfl fun σ h => ?_
  exact wpo_some.mpr ⟨rfl, h⟩
def zV6 : List (Int × Int × Int) := (13, 1, 25) :: zV5
set_option maxHeartbeats 4000000 in
theorem i_RWb1 {σ0 σ : mS} (g : zFT σ0) (h : zRp σ0 zX0 24 zV4 554 σ) : wpo (B_RW_init_13 1 1 σ) (fun z => ∃ σ', z = Sum.inl (2, σ') ∧ zRp σ0 zX0 35 zV6 822 σ') := by
  unfold B_RW_init_13
  rw [if_pos (by decide)]
  refine t_gf 13 h (by decide +kernel) ?_
  refine t_new (m := 25) (s' := 568) 25 h rfl rfl rfl rfl fun σ h => ?_
  refine t_gk h (by decide +kernel) ?_
  refine t_call (i_Road_25 g h) ?_
  intro p ⟨hp, h⟩
  refine t_sr _ h (by decide +kernel) (by decide +kernel) rfl fun σ h => ?_
  exact wpo_some.mpr ⟨_, rfl, h⟩
def zV7 : List (Int × Int × Int) := (1, 2, 36) :: zV6
def zV8 : List (Int × Int × Int) := (37, 0, 38) :: zV7
set_option maxHeartbeats 4000000 in
theorem i_Tape_37 {σ0 σ : mS} (g : zFT σ0) (h : zRp σ0 zX0 37 zV7 826 σ) : wpo (M_Tape_init 37 σ) (fun p => p.1 = 0 ∧ zRp σ0 zX0 38 zV8 1226 p.2) := by
  unfold M_Tape_init
  refine t_gk h (by decide +kernel) ?_
  refine t_na (m := 38) (s' := 1226) 38 h rfl rfl (by decide) rfl rfl fun σ h => ?_
  refine t_pf _ h (by decide +kernel) rfl fun σ h => ?_
  exact wpo_some.mpr ⟨rfl, h⟩
def zV9 : List (Int × Int × Int) := (1, 3, 37) :: zV8
def zV10 : List (Int × Int × Int) := (39, 8, 45) :: (39, 7, 44) :: (39, 5, 43) :: (39, 2, 42) :: (39, 1, 41) :: (39, 0, 40) :: zV9
set_option maxHeartbeats 4000000 in
theorem i_Reader_39 {σ0 σ : mS} (g : zFT σ0) (h : zRp σ0 zX0 39 zV9 1238 σ) : wpo (M_Reader_init 39 σ) (fun p => p.1 = 0 ∧ zRp σ0 zX0 45 zV10 2865 p.2) := by
  unfold M_Reader_init
  refine t_gk h (by decide +kernel) ?_
  refine t_na (m := 40) (s' := 1639) 40 h rfl rfl (by decide) rfl rfl fun σ h => ?_
  refine t_pf _ h (by decide +kernel) rfl fun σ h => ?_
  refine t_na (m := 41) (s' := 2040) 41 h rfl rfl (by decide) rfl rfl fun σ h => ?_
  refine t_pf _ h (by decide +kernel) rfl fun σ h => ?_
  refine t_na (m := 42) (s' := 2441) 42 h rfl rfl (by decide) rfl rfl fun σ h => ?_
  refine t_pf _ h (by decide +kernel) rfl fun σ h => ?_
  refine t_na (m := 43) (s' := 2841) 43 h rfl rfl (by decide) rfl rfl fun σ h => ?_
  refine t_pf _ h (by decide +kernel) rfl fun σ h => ?_
  refine t_na (m := 44) (s' := 2853) 44 h rfl rfl (by decide) rfl rfl fun σ h => ?_
  refine t_pf _ h (by decide +kernel) rfl fun σ h => ?_
  refine t_na (m := 45) (s' := 2865) 45 h rfl rfl (by decide) rfl rfl fun σ h => ?_
  refine t_pf _ h (by decide +kernel) rfl fun σ h => ?_
  exact wpo_some.mpr ⟨rfl, h⟩
def zV11 : List (Int × Int × Int) := (1, 4, 39) :: zV10
def zV12 : List (Int × Int × Int) := (48, -1, 1) :: (46, 0, 2) :: (46, 4, 50) :: (46, 3, 49) :: (46, 2, 48) :: (46, 1, 47) :: zV11
set_option maxHeartbeats 4000000 in
theorem i_Air_46 {σ0 σ : mS} (g : zFT σ0) (h : zRp σ0 zX0 46 zV11 2870 σ) : wpo (M_Air_init 46 2 σ) (fun p => p.1 = 0 ∧ zRp σ0 zX0 50 zV12 3028 p.2) := by
  unfold M_Air_init
  refine t_gk h (by decide +kernel) ?_
  refine t_na (m := 47) (s' := 2894) 47 h rfl rfl (by decide) rfl rfl fun σ h => ?_
  refine t_pf _ h (by decide +kernel) rfl fun σ h => ?_
  refine t_na (m := 48) (s' := 2958) 48 h rfl rfl (by decide) rfl rfl fun σ h => ?_
  refine t_pf _ h (by decide +kernel) rfl fun σ h => ?_
  refine t_na (m := 49) (s' := 2964) 49 h rfl rfl (by decide) rfl rfl fun σ h => ?_
  refine t_pf _ h (by decide +kernel) rfl fun σ h => ?_
  refine t_na (m := 50) (s' := 3028) 50 h rfl rfl (by decide) rfl rfl fun σ h => ?_
  refine t_pf _ h (by decide +kernel) rfl fun σ h => ?_
  refine t_pf _ h (by decide +kernel) rfl fun σ h => ?_
  refine t_gf 48 h (by decide +kernel) ?_
  refine t_fill _ h (by decide +kernel) rfl fun p h => ?_
  exact wpo_some.mpr ⟨rfl, h⟩
def zV13 : List (Int × Int × Int) := (1, 5, 46) :: zV12
def zV14 : List (Int × Int × Int) := (52, -1, -1) :: (51, 1, 46) :: (51, 0, 2) :: (51, 10, 53) :: (51, 2, 52) :: zV13
def zV15 : List (Int × Int × Int) := (54, 0, 0) :: (54, 3, 57) :: (54, 2, 56) :: (54, 1, 55) :: zV14
set_option maxHeartbeats 4000000 in
theorem i_HourAir_54 {σ0 σ : mS} (g : zFT σ0) (h : zRp σ0 zX0 54 zV14 3177 σ) : wpo (M_HourAir_init 54 0 σ) (fun p => p.1 = 0 ∧ zRp σ0 zX0 57 zV15 7337 p.2) := by
  unfold M_HourAir_init
  refine t_gk h (by decide +kernel) ?_
  refine t_na (m := 55) (s' := 5225) 55 h rfl rfl (by decide) rfl rfl fun σ h => ?_
  refine t_pf _ h (by decide +kernel) rfl fun σ h => ?_
  refine t_na (m := 56) (s' := 7273) 56 h rfl rfl (by decide) rfl rfl fun σ h => ?_
  refine t_pf _ h (by decide +kernel) rfl fun σ h => ?_
  refine t_na (m := 57) (s' := 7337) 57 h rfl rfl (by decide) rfl rfl fun σ h => ?_
  refine t_pf _ h (by decide +kernel) rfl fun σ h => ?_
  refine t_pf _ h (by decide +kernel) rfl fun σ h => ?_
  exact wpo_some.mpr ⟨rfl, h⟩
def zV16 : List (Int × Int × Int) := (47, 0, 54) :: zV15
set_option maxHeartbeats 4000000 in
theorem i_ofHour {σ0 σ : mS} (g : zFT σ0) (h : zRp σ0 zX0 53 zV14 3173 σ) : wpo (M_Air_ofHour 46 0 σ) (fun p => p.1 = 54 ∧ zRp σ0 zX1 57 zV16 7337 p.2) := by
  unfold M_Air_ofHour
  refine t_gk h (by decide +kernel) ?_
  refine t_call (P := fun p => p.1 = 0 ∧ p.2 = σ) ?_ ?_
  · unfold M_Air_differsByHour
    refine t_gk h (by decide +kernel) ?_
    refine t_call (P := fun p => p.1 = 0 ∧ p.2 = σ) ?_ ?_
    · unfold M_Air_lawInForce
      refine t_gf 2 h (by decide +kernel) ?_
      refine t_gf (-1) h (by decide +kernel) ?_
      rw [if_pos (by decide)]
      exact wpo_some.mpr ⟨rfl, rfl⟩
    · intro p ⟨p1, p2⟩
      rw [if_pos p1, if_pos (Or.inl rfl)]
      exact wpo_some.mpr ⟨rfl, p2⟩
  · intro p ⟨p1, p2⟩
    rw [if_pos p1, p2]
    unfold M_Air_ofHour_6
    refine t_gf 47 h (by decide +kernel) ?_
    refine t_ld 0 h (by decide +kernel) ?_
    rw [if_pos rfl]
    refine t_new (m := 54) (s' := 3177) 54 h rfl rfl rfl rfl fun σ h => ?_
    refine t_gk h (by decide +kernel) ?_
    refine t_call (i_HourAir_54 g h) ?_
    intro p ⟨hp, h⟩
    refine t_gf 47 h (by decide +kernel) ?_
    refine t_sr zV16 h (by decide +kernel) (by decide +kernel) rfl fun σ h => ?_
    have e : M_Air_ofHour_26 46 54 0 σ = some (54, zHx 2048 64 σ) := by
      refine w_ofHour ⟨⟨rp_k h (by decide) (by decide), rp_k h (by decide) (by decide), rp_k h (by decide) (by decide), rp_k h (by decide) (by decide)⟩, ?_, ?_, ?_⟩ (rp_k h (by decide) (by decide)) (rp_k h (by decide) (by decide)) ?_ ?_ ?_
      · rw [h.2.2.2.2.1 54 1 (by decide) (by decide)]; decide +kernel
      · rw [h.2.2.2.2.1 54 2 (by decide) (by decide)]; decide +kernel
      · rw [h.2.2.2.2.1 54 3 (by decide) (by decide)]; decide +kernel
      · rw [h.2.2.2.2.1 46 2 (by decide) (by decide)]; decide +kernel
      · intro p p0 p1
        have key : ∀ m : Nat, m < 64 → zlk zV16 48 (m : Int) = 1 := by decide +kernel
        have k2 := key p.toNat (by omega)
        rw [Int.toNat_of_nonneg p0] at k2
        rw [h.2.2.2.2.1 48 p (by decide) (by decide), k2]; rfl
      · intro p p0 p1
        have key : ∀ e ∈ zV16, e.1 ≠ 57 := by decide +kernel
        rw [h.2.2.2.2.1 57 p (by decide) (by decide), zlk_nm key]; rfl
    rw [e]
    exact wpo_some.mpr ⟨rfl, rp_hour h (by decide +kernel) (by decide +kernel) (by decide +kernel)⟩
def zV17 : List (Int × Int × Int) := (51, 5, 54) :: zV16
set_option maxHeartbeats 4000000 in
theorem i_Light_51 {σ0 σ : mS} (g : zFT σ0) (h : zRp σ0 zX0 51 zV13 3045 σ) : wpo (M_Light_init 51 2 46 σ) (fun p => p.1 = 0 ∧ zRp σ0 zX1 57 zV17 7337 p.2) := by
  unfold M_Light_init
  refine t_gk h (by decide +kernel) ?_
  refine t_na (m := 52) (s' := 3109) 52 h rfl rfl (by decide) rfl rfl fun σ h => ?_
  refine t_pf _ h (by decide +kernel) rfl fun σ h => ?_
  refine t_na (m := 53) (s' := 3173) 53 h rfl rfl (by decide) rfl rfl fun σ h => ?_
  refine t_pf _ h (by decide +kernel) rfl fun σ h => ?_
  refine t_pf _ h (by decide +kernel) rfl fun σ h => ?_
  refine t_pf _ h (by decide +kernel) rfl fun σ h => ?_
  refine t_gf 52 h (by decide +kernel) ?_
  refine t_fill _ h (by decide +kernel) rfl fun p h => ?_
  refine t_gk h (by decide +kernel) ?_
  refine t_call (i_ofHour g h) ?_
  intro p ⟨hp, h⟩
  rw [hp]
  refine t_pf _ h (by decide +kernel) rfl fun σ h => ?_
  exact wpo_some.mpr ⟨rfl, h⟩
def zV18 : List (Int × Int × Int) := (1, 6, 51) :: zV17
def zV19 : List (Int × Int × Int) := (58, 0, 51) :: (58, 3, 61) :: (58, 2, 60) :: (58, 1, 59) :: zV18
set_option maxHeartbeats 4000000 in
theorem i_Field_58 {σ0 σ : mS} (g : zFT σ0) (h : zRp σ0 zX1 58 zV18 7345 σ) : wpo (M_Field_init 58 51 σ) (fun p => p.1 = 0 ∧ zRp σ0 zX1 61 zV19 7948 p.2) := by
  unfold M_Field_init
  refine t_gk h (by decide +kernel) ?_
  refine t_na (m := 59) (s' := 7546) 59 h rfl rfl (by decide) rfl rfl fun σ h => ?_
  refine t_pf _ h (by decide +kernel) rfl fun σ h => ?_
  refine t_na (m := 60) (s' := 7747) 60 h rfl rfl (by decide) rfl rfl fun σ h => ?_
  refine t_pf _ h (by decide +kernel) rfl fun σ h => ?_
  refine t_na (m := 61) (s' := 7948) 61 h rfl rfl (by decide) rfl rfl fun σ h => ?_
  refine t_pf _ h (by decide +kernel) rfl fun σ h => ?_
  refine t_pf _ h (by decide +kernel) rfl fun σ h => ?_
  exact wpo_some.mpr ⟨rfl, h⟩
def zV20 : List (Int × Int × Int) := (1, 7, 58) :: zV19
def zV21 : List (Int × Int × Int) := (62, 1, 51) :: (62, 0, 2) :: (62, 3, 64) :: (62, 2, 63) :: zV20
set_option maxHeartbeats 4000000 in
theorem i_Survey_62 {σ0 σ : mS} (g : zFT σ0) (h : zRp σ0 zX1 62 zV20 7952 σ) : wpo (M_Survey_init 62 2 51 σ) (fun p => p.1 = 0 ∧ zRp σ0 zX1 64 zV21 8080 p.2) := by
  unfold M_Survey_init
  refine t_gk h (by decide +kernel) ?_
  refine t_na (m := 63) (s' := 8016) 63 h rfl rfl (by decide) rfl rfl fun σ h => ?_
  refine t_pf _ h (by decide +kernel) rfl fun σ h => ?_
  refine t_na (m := 64) (s' := 8080) 64 h rfl rfl (by decide) rfl rfl fun σ h => ?_
  refine t_pf _ h (by decide +kernel) rfl fun σ h => ?_
  refine t_pf _ h (by decide +kernel) rfl fun σ h => ?_
  refine t_pf _ h (by decide +kernel) rfl fun σ h => ?_
  exact wpo_some.mpr ⟨rfl, h⟩
def zV22 : List (Int × Int × Int) := (1, 15, 67) :: (1, 13, -1) :: (1, 10, 66) :: (1, 9, 65) :: (1, 8, 62) :: zV21
set_option maxHeartbeats 4000000 in
theorem i_RWb2 {σ0 σ : mS} (g : zFT σ0) (h : zRp σ0 zX0 35 zV6 822 σ) : wpo (B_RW_init_13 1 2 σ) (fun z => ∃ σ', z = Sum.inr (0, σ') ∧ zRp σ0 zX1 67 zV22 8167 σ') := by
  unfold B_RW_init_13
  rw [if_neg (by decide)]
  refine t_na (m := 36) (s' := 824) 36 h rfl rfl (by decide) rfl rfl fun σ h => ?_
  refine t_pf _ h (by decide +kernel) rfl fun σ h => ?_
  refine t_new (m := 37) (s' := 826) 37 h rfl rfl rfl rfl fun σ h => ?_
  refine t_gk h (by decide +kernel) ?_
  refine t_call (i_Tape_37 g h) ?_
  intro p ⟨hp, h⟩
  refine t_pf _ h (by decide +kernel) rfl fun σ h => ?_
  refine t_new (m := 39) (s' := 1238) 39 h rfl rfl rfl rfl fun σ h => ?_
  refine t_gk h (by decide +kernel) ?_
  refine t_call (i_Reader_39 g h) ?_
  intro p ⟨hp, h⟩
  refine t_pf _ h (by decide +kernel) rfl fun σ h => ?_
  refine t_new (m := 46) (s' := 2870) 46 h rfl rfl rfl rfl fun σ h => ?_
  refine t_gf 2 h (by decide +kernel) ?_
  refine t_gk h (by decide +kernel) ?_
  refine t_call (i_Air_46 g h) ?_
  intro p ⟨hp, h⟩
  refine t_pf _ h (by decide +kernel) rfl fun σ h => ?_
  refine t_new (m := 51) (s' := 3045) 51 h rfl rfl rfl rfl fun σ h => ?_
  refine t_gf 2 h (by decide +kernel) ?_
  refine t_gf 46 h (by decide +kernel) ?_
  refine t_gk h (by decide +kernel) ?_
  refine t_call (i_Light_51 g h) ?_
  intro p ⟨hp, h⟩
  refine t_pf _ h (by decide +kernel) rfl fun σ h => ?_
  refine t_new (m := 58) (s' := 7345) 58 h rfl rfl rfl rfl fun σ h => ?_
  refine t_gf 51 h (by decide +kernel) ?_
  refine t_gk h (by decide +kernel) ?_
  refine t_call (i_Field_58 g h) ?_
  intro p ⟨hp, h⟩
  refine t_pf _ h (by decide +kernel) rfl fun σ h => ?_
  refine t_new (m := 62) (s' := 7952) 62 h rfl rfl rfl rfl fun σ h => ?_
  refine t_gf 2 h (by decide +kernel) ?_
  refine t_gf 51 h (by decide +kernel) ?_
  refine t_gk h (by decide +kernel) ?_
  refine t_call (i_Survey_62 g h) ?_
  intro p ⟨hp, h⟩
  refine t_pf _ h (by decide +kernel) rfl fun σ h => ?_
  refine t_na (m := 65) (s' := 8120) 65 h rfl rfl (by decide) rfl rfl fun σ h => ?_
  refine t_pf _ h (by decide +kernel) rfl fun σ h => ?_
  refine t_na (m := 66) (s' := 8160) 66 h rfl rfl (by decide) rfl rfl fun σ h => ?_
  refine t_pf _ h (by decide +kernel) rfl fun σ h => ?_
  refine t_pf _ h (by decide +kernel) rfl fun σ h => ?_
  refine t_na (m := 67) (s' := 8167) 67 h rfl rfl (by decide) rfl rfl fun σ h => ?_
  refine t_pf _ h (by decide +kernel) rfl fun σ h => ?_
  exact wpo_some.mpr ⟨_, rfl, h⟩
set_option maxHeartbeats 4000000 in
theorem i_RW {σ0 σ : mS} (g : zFT σ0) (h : zRp σ0 zX0 1 [] 16 σ) : wpo (M_RW_init 1 σ) (fun p => p.1 = 0 ∧ zRp σ0 zX1 67 zV22 8167 p.2) := by
  unfold M_RW_init
  refine t_gk h (by decide +kernel) ?_
  refine t_new (m := 2) (s' := 30) 2 h rfl rfl rfl rfl fun σ h => ?_
  refine t_gk h (by decide +kernel) ?_
  refine t_call (i_Road_2 g h) ?_
  intro p ⟨hp, h⟩
  refine t_pf _ h (by decide +kernel) rfl fun σ h => ?_
  refine t_na (m := 13) (s' := 286) 13 h rfl rfl (by decide) rfl rfl fun σ h => ?_
  refine t_pf _ h (by decide +kernel) rfl fun σ h => ?_
  unfold M_RW_init_13
  refine miter_3 (miter_s (wpo_mono (i_RWb0 g h) ?_))
  intro z ⟨σ1, e1, h⟩
  rw [e1]
  refine miter_s (wpo_mono (i_RWb1 g h) ?_)
  intro z ⟨σ2, e2, h⟩
  rw [e2]
  refine miter_s (wpo_mono (i_RWb2 g h) ?_)
  intro z ⟨σ3, e3, h⟩
  rw [e3]
  exact ⟨rfl, h⟩
def zV23 : List (Int × Int × Int) := (70, 187, -1) :: (70, 183, 16) :: (70, 181, 1) :: (70, 180, 12) :: (68, 42, 90) :: (68, 41, 89) :: (68, 40, 88) :: (68, 39, 87) :: (68, 38, 86) :: (68, 37, 85) :: (68, 36, 84) :: (68, 35, 83) :: (68, 26, 82) :: (68, 24, 81) :: (68, 23, 80) :: (68, 22, 79) :: (68, 14, 78) :: (68, 13, 77) :: (68, 12, 76) :: (68, 11, -1) :: (68, 9, 75) :: (68, 8, 74) :: (68, 7, 73) :: (73, 52, 32) :: (73, 51, 114) :: (73, 50, 117) :: (73, 49, 111) :: (73, 48, 104) :: (73, 47, 32) :: (73, 46, 101) :: (73, 45, 115) :: (73, 44, 105) :: (73, 43, 114) :: (73, 42, 32) :: (73, 41, 100) :: (73, 40, 110) :: (73, 39, 117) :: (73, 38, 111) :: (73, 37, 114) :: (73, 36, 103) :: (73, 35, 32) :: (73, 34, 101) :: (73, 33, 99) :: (73, 32, 97) :: (73, 31, 108) :: (73, 30, 112) :: (73, 29, 32) :: (73, 28, 101) :: (73, 27, 118) :: (73, 26, 111) :: (73, 25, 98) :: (73, 24, 97) :: (73, 23, 32) :: (73, 22, 104) :: (73, 21, 99) :: (73, 20, 110) :: (73, 19, 105) :: (73, 18, 32) :: (73, 17, 116) :: (73, 16, 111) :: (73, 15, 110) :: (73, 14, 32) :: (73, 13, 100) :: (73, 12, 110) :: (73, 11, 97) :: (73, 10, 32) :: (73, 9, 114) :: (73, 8, 111) :: (73, 7, 32) :: (73, 6, 102) :: (73, 5, 105) :: (73, 4, 32) :: (73, 3, 109) :: (73, 2, 114) :: (73, 1, 97) :: (73, 0, 119) :: (68, 5, 72) :: (68, 4, 71) :: (68, 3, 70) :: (68, 2, 69) :: zV22
set_option maxHeartbeats 4000000 in
theorem i_Mo_68 {σ0 σ : mS} (g : zFT σ0) (h : zRp σ0 zX1 68 zV22 8211 σ) : wpo (M_Mo_init 68 σ) (fun p => p.1 = 0 ∧ zRp σ0 zX1 90 zV23 74847 p.2) := by
  unfold M_Mo_init
  refine t_gk h (by decide +kernel) ?_
  refine t_na (m := 69) (s' := 8218) 69 h rfl rfl (by decide) rfl rfl fun σ h => ?_
  refine t_pf _ h (by decide +kernel) rfl fun σ h => ?_
  refine t_na (m := 70) (s' := 13212) 70 h rfl rfl (by decide) rfl rfl fun σ h => ?_
  refine t_pf _ h (by decide +kernel) rfl fun σ h => ?_
  refine t_na (m := 71) (s' := 23200) 71 h rfl rfl (by decide) rfl rfl fun σ h => ?_
  refine t_pf _ h (by decide +kernel) rfl fun σ h => ?_
  refine t_na (m := 72) (s' := 23202) 72 h rfl rfl (by decide) rfl rfl fun σ h => ?_
  refine t_pf _ h (by decide +kernel) rfl fun σ h => ?_
  refine t_na (m := 73) (s' := 23255) 73 h rfl rfl (by decide) rfl rfl fun σ h => ?_
  refine t_sd _ h (by decide +kernel) (by decide +kernel) rfl fun σ h => ?_
  refine t_sd _ h (by decide +kernel) (by decide +kernel) rfl fun σ h => ?_
  refine t_sd _ h (by decide +kernel) (by decide +kernel) rfl fun σ h => ?_
  refine t_sd _ h (by decide +kernel) (by decide +kernel) rfl fun σ h => ?_
  refine t_sd _ h (by decide +kernel) (by decide +kernel) rfl fun σ h => ?_
  refine t_sd _ h (by decide +kernel) (by decide +kernel) rfl fun σ h => ?_
  refine t_sd _ h (by decide +kernel) (by decide +kernel) rfl fun σ h => ?_
  refine t_sd _ h (by decide +kernel) (by decide +kernel) rfl fun σ h => ?_
  refine t_sd _ h (by decide +kernel) (by decide +kernel) rfl fun σ h => ?_
  refine t_sd _ h (by decide +kernel) (by decide +kernel) rfl fun σ h => ?_
  refine t_sd _ h (by decide +kernel) (by decide +kernel) rfl fun σ h => ?_
  refine t_sd _ h (by decide +kernel) (by decide +kernel) rfl fun σ h => ?_
  refine t_sd _ h (by decide +kernel) (by decide +kernel) rfl fun σ h => ?_
  refine t_sd _ h (by decide +kernel) (by decide +kernel) rfl fun σ h => ?_
  refine t_sd _ h (by decide +kernel) (by decide +kernel) rfl fun σ h => ?_
  refine t_sd _ h (by decide +kernel) (by decide +kernel) rfl fun σ h => ?_
  refine t_sd _ h (by decide +kernel) (by decide +kernel) rfl fun σ h => ?_
  refine t_sd _ h (by decide +kernel) (by decide +kernel) rfl fun σ h => ?_
  refine t_sd _ h (by decide +kernel) (by decide +kernel) rfl fun σ h => ?_
  refine t_sd _ h (by decide +kernel) (by decide +kernel) rfl fun σ h => ?_
  refine t_sd _ h (by decide +kernel) (by decide +kernel) rfl fun σ h => ?_
  refine t_sd _ h (by decide +kernel) (by decide +kernel) rfl fun σ h => ?_
  refine t_sd _ h (by decide +kernel) (by decide +kernel) rfl fun σ h => ?_
  refine t_sd _ h (by decide +kernel) (by decide +kernel) rfl fun σ h => ?_
  refine t_sd _ h (by decide +kernel) (by decide +kernel) rfl fun σ h => ?_
  refine t_sd _ h (by decide +kernel) (by decide +kernel) rfl fun σ h => ?_
  refine t_sd _ h (by decide +kernel) (by decide +kernel) rfl fun σ h => ?_
  refine t_sd _ h (by decide +kernel) (by decide +kernel) rfl fun σ h => ?_
  refine t_sd _ h (by decide +kernel) (by decide +kernel) rfl fun σ h => ?_
  refine t_sd _ h (by decide +kernel) (by decide +kernel) rfl fun σ h => ?_
  refine t_sd _ h (by decide +kernel) (by decide +kernel) rfl fun σ h => ?_
  refine t_sd _ h (by decide +kernel) (by decide +kernel) rfl fun σ h => ?_
  refine t_sd _ h (by decide +kernel) (by decide +kernel) rfl fun σ h => ?_
  refine t_sd _ h (by decide +kernel) (by decide +kernel) rfl fun σ h => ?_
  refine t_sd _ h (by decide +kernel) (by decide +kernel) rfl fun σ h => ?_
  refine t_sd _ h (by decide +kernel) (by decide +kernel) rfl fun σ h => ?_
  refine t_sd _ h (by decide +kernel) (by decide +kernel) rfl fun σ h => ?_
  refine t_sd _ h (by decide +kernel) (by decide +kernel) rfl fun σ h => ?_
  refine t_sd _ h (by decide +kernel) (by decide +kernel) rfl fun σ h => ?_
  refine t_sd _ h (by decide +kernel) (by decide +kernel) rfl fun σ h => ?_
  refine t_sd _ h (by decide +kernel) (by decide +kernel) rfl fun σ h => ?_
  refine t_sd _ h (by decide +kernel) (by decide +kernel) rfl fun σ h => ?_
  refine t_sd _ h (by decide +kernel) (by decide +kernel) rfl fun σ h => ?_
  refine t_sd _ h (by decide +kernel) (by decide +kernel) rfl fun σ h => ?_
  refine t_sd _ h (by decide +kernel) (by decide +kernel) rfl fun σ h => ?_
  refine t_sd _ h (by decide +kernel) (by decide +kernel) rfl fun σ h => ?_
  refine t_sd _ h (by decide +kernel) (by decide +kernel) rfl fun σ h => ?_
  refine t_sd _ h (by decide +kernel) (by decide +kernel) rfl fun σ h => ?_
  refine t_sd _ h (by decide +kernel) (by decide +kernel) rfl fun σ h => ?_
  refine t_sd _ h (by decide +kernel) (by decide +kernel) rfl fun σ h => ?_
  refine t_sd _ h (by decide +kernel) (by decide +kernel) rfl fun σ h => ?_
  refine t_sd _ h (by decide +kernel) (by decide +kernel) rfl fun σ h => ?_
  refine t_sd _ h (by decide +kernel) (by decide +kernel) rfl fun σ h => ?_
  refine t_pf _ h (by decide +kernel) rfl fun σ h => ?_
  refine t_na (m := 74) (s' := 23655) 74 h rfl rfl (by decide) rfl rfl fun σ h => ?_
  refine t_pf _ h (by decide +kernel) rfl fun σ h => ?_
  refine t_na (m := 75) (s' := 23660) 75 h rfl rfl (by decide) rfl rfl fun σ h => ?_
  refine t_pf _ h (by decide +kernel) rfl fun σ h => ?_
  refine t_pf _ h (by decide +kernel) rfl fun σ h => ?_
  refine t_na (m := 76) (s' := 24061) 76 h rfl rfl (by decide) rfl rfl fun σ h => ?_
  refine t_pf _ h (by decide +kernel) rfl fun σ h => ?_
  refine t_na (m := 77) (s' := 24462) 77 h rfl rfl (by decide) rfl rfl fun σ h => ?_
  refine t_pf _ h (by decide +kernel) rfl fun σ h => ?_
  refine t_na (m := 78) (s' := 24863) 78 h rfl rfl (by decide) rfl rfl fun σ h => ?_
  refine t_pf _ h (by decide +kernel) rfl fun σ h => ?_
  refine t_na (m := 79) (s' := 24869) 79 h rfl rfl (by decide) rfl rfl fun σ h => ?_
  refine t_pf _ h (by decide +kernel) rfl fun σ h => ?_
  refine t_na (m := 80) (s' := 74021) 80 h rfl rfl (by decide) rfl rfl fun σ h => ?_
  refine t_pf _ h (by decide +kernel) rfl fun σ h => ?_
  refine t_na (m := 81) (s' := 74045) 81 h rfl rfl (by decide) rfl rfl fun σ h => ?_
  refine t_pf _ h (by decide +kernel) rfl fun σ h => ?_
  refine t_na (m := 82) (s' := 74109) 82 h rfl rfl (by decide) rfl rfl fun σ h => ?_
  refine t_pf _ h (by decide +kernel) rfl fun σ h => ?_
  refine t_na (m := 83) (s' := 74310) 83 h rfl rfl (by decide) rfl rfl fun σ h => ?_
  refine t_pf _ h (by decide +kernel) rfl fun σ h => ?_
  refine t_na (m := 84) (s' := 74511) 84 h rfl rfl (by decide) rfl rfl fun σ h => ?_
  refine t_pf _ h (by decide +kernel) rfl fun σ h => ?_
  refine t_na (m := 85) (s' := 74575) 85 h rfl rfl (by decide) rfl rfl fun σ h => ?_
  refine t_pf _ h (by decide +kernel) rfl fun σ h => ?_
  refine t_na (m := 86) (s' := 74639) 86 h rfl rfl (by decide) rfl rfl fun σ h => ?_
  refine t_pf _ h (by decide +kernel) rfl fun σ h => ?_
  refine t_na (m := 87) (s' := 74703) 87 h rfl rfl (by decide) rfl rfl fun σ h => ?_
  refine t_pf _ h (by decide +kernel) rfl fun σ h => ?_
  refine t_na (m := 88) (s' := 74767) 88 h rfl rfl (by decide) rfl rfl fun σ h => ?_
  refine t_pf _ h (by decide +kernel) rfl fun σ h => ?_
  refine t_na (m := 89) (s' := 74807) 89 h rfl rfl (by decide) rfl rfl fun σ h => ?_
  refine t_pf _ h (by decide +kernel) rfl fun σ h => ?_
  refine t_na (m := 90) (s' := 74847) 90 h rfl rfl (by decide) rfl rfl fun σ h => ?_
  refine t_pf _ h (by decide +kernel) rfl fun σ h => ?_
  refine t_gf 70 h (by decide +kernel) ?_
  refine t_sd _ h (by decide +kernel) (by decide +kernel) rfl fun σ h => ?_
  refine t_gf 70 h (by decide +kernel) ?_
  refine t_sd _ h (by decide +kernel) (by decide +kernel) rfl fun σ h => ?_
  refine t_gf 70 h (by decide +kernel) ?_
  refine t_sd _ h (by decide +kernel) (by decide +kernel) rfl fun σ h => ?_
  refine t_gf 70 h (by decide +kernel) ?_
  refine t_sd _ h (by decide +kernel) (by decide +kernel) rfl fun σ h => ?_
  exact wpo_some.mpr ⟨rfl, h⟩
