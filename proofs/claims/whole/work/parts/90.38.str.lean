/-! String.length and charAt of a text that was there before -/
def sF (A : Nat → Prop) (b adv M : Nat) (f : Nat → Int32) (U : State) : Prop := va_O "java/lang/String" b A U U.heap ∧ va_OF "java/lang/String" "coder" "B" (.int 0) b A U U.heap ∧ va_OF "java/lang/String" "value" "[B" (.ref adv) b A U U.heap ∧ va_T .byte adv M (fun j => .int (f j)) A U U.heap ∧ va_Z "java/lang/String" "COMPACT_STRINGS" "Z" (.int 1) A U U.heap ∧ va_Zq "jdk/internal/util/Preconditions" "SIOOBE_FORMATTER" "Ljava/util/function/BiFunction;" A U U.heap
theorem sF.move {A : Nat → Prop} {b adv M : Nat} {f : Nat → Int32} {s U : State} (h : sF A b adv M f s) (hq : ∀ a : Nat, a < s.heap.size → ¬ A a → U.heap[a]? = s.heap[a]?) (hW : s.vm.Alike U.vm) : sF A b adv M f U := by
  obtain ⟨h1, h2, h3, h4, h5, h6⟩ := h
  exact ⟨va_O.moved hW (h1.kept hq), va_OF.moved hW (h2.kept hq), va_OF.moved hW (h3.kept hq), (h4.kept hq).moved hW, (h5.kept hq).moved hW, (h6.kept hq).moved hW⟩
abbrev rmj (j : Nat) : Room := { frames := j, cells := 0, slots := 0, locals := 64 * j }
def sP (A : Nat → Prop) (b adv M : Nat) (f : Nat → Int32) (vs : List Value) : Array Value → State → Prop := fun v U => v = vs.toArray ∧ sF A b adv M f U
theorem sP.blind {A : Nat → Prop} {b adv M : Nat} {f : Nat → Int32} {vs : List Value} : FrameBlind (sP A b adv M f vs) := fun a U g mk ⟨h1, h2⟩ => ⟨h1, h2.move (fun _ _ _ => rfl) (Vm.Alike.refl U.vm)⟩
theorem sP.at {A : Nat → Prop} {b adv M : Nat} {f : Nat → Int32} {vs : List Value} {s : State} (h : sF A b adv M f s) (U : State) (hU : U.heap = s.heap) (hW : s.WarmedH U.vm) : sP A b adv M f vs vs.toArray U := ⟨rfl, h.move (fun _ _ _ => by rw [hU]) hW.alike⟩
section Str
variable {l : Launch} {A : Nat → Prop} {b adv M : Nat} {f : Nat → Int32}
theorem cS_coder : Met l ys_coder (Cond.code ys_coder cs_coder 1 (some .byte) :: lw_g) (rmj 0) (sP A b adv M f [.ref b]) (QcRead 0) 0 0 (fun _ => False) := by
  refine Met.ofW (cc := cs_coder) (maxL := 1) (ret := some .byte) (by decide +kernel) rfl ?_
  intro p e s m args below meth c s₁ B hml hv
  obtain ⟨rfl, h1, h2, h3, h4, h5, h6⟩ := hv
  have hx := B.exec
  have hb := B.bytes
  have hr := B.returns
  have hlocks := B.notSynchronized
  have hts : ∀ w ∈ lw_g, w.before [Value.ref b].toArray s = true := fun w hw => atoms_spec (ws := Cond.code ys_coder cs_coder 1 (some .byte) :: lw_g) B.pre w (List.mem_cons_of_mem _ hw)
  have hown : s.vm.findClass "java/lang/String" = some m.cls := findClass_of_methodNamed B.named
  have hl := lv_entry ([.ref b]) (n := 1) (Nat.le_of_ble_eq_true rfl)
  rw [lg_entry_eq]
  generalize (lg_sl ([.ref b]) ++ List.replicate (1 - (lg_sl ([.ref b])).length) Slot.unset).toArray = ls at hl ⊢
  have hl : lv_has ls 1 [(0, .ref b)] := hl
  have hS : va_S A s.heap s.heap [] := va_S.rf
  refine va_gets hx hb h5 hS hown (hts _ wx_f_comp) (fun _ h => h) ds_coder_0 ?_
  refine lv_if_eq (tgt := 13) hx hb ds_coder_3 (by decide) (fun q => absurd q (by decide)) (fun _ => ?_)
  refine lv_aload_n hx hb ds_coder_6 rfl (lv_at hl 0 rfl) ?_
  refine vk_getf hx hb h2 hS hown (hts _ wx_f_coderf) (fun _ h => h) ds_coder_7 ?_
  refine lv_goto (tgt := 14) hx hb ds_coder_10 (by decide) ?_
  exact W.zret hx hb hr rfl (fun t ht hW => ⟨rfl, ht⟩) (fun _ h => by cases h) ds_coder_14
theorem cS_lat : Met l ys_lat (Cond.code ys_lat cs_lat 1 (some .boolean) :: lw_g) (rmj 0) (sP A b adv M f [.ref b]) (QcRead 1) 0 0 (fun _ => False) := by
  refine Met.ofW (cc := cs_lat) (maxL := 1) (ret := some .boolean) (by decide +kernel) rfl ?_
  intro p e s m args below meth c s₁ B hml hv
  obtain ⟨rfl, h1, h2, h3, h4, h5, h6⟩ := hv
  have hx := B.exec
  have hb := B.bytes
  have hr := B.returns
  have hlocks := B.notSynchronized
  have hts : ∀ w ∈ lw_g, w.before [Value.ref b].toArray s = true := fun w hw => atoms_spec (ws := Cond.code ys_lat cs_lat 1 (some .boolean) :: lw_g) B.pre w (List.mem_cons_of_mem _ hw)
  have hown : s.vm.findClass "java/lang/String" = some m.cls := findClass_of_methodNamed B.named
  have hl := lv_entry ([.ref b]) (n := 1) (Nat.le_of_ble_eq_true rfl)
  rw [lg_entry_eq]
  generalize (lg_sl ([.ref b]) ++ List.replicate (1 - (lg_sl ([.ref b])).length) Slot.unset).toArray = ls at hl ⊢
  have hl : lv_has ls 1 [(0, .ref b)] := hl
  have hS : va_S A s.heap s.heap [] := va_S.rf
  refine va_gets hx hb h5 hS hown (hts _ wx_f_comp) (fun _ h => h) ds_lat_0 ?_
  refine lv_if_eq (tgt := 17) hx hb ds_lat_3 (by decide) (fun q => absurd q (by decide)) (fun _ => ?_)
  refine lv_aload_n hx hb ds_lat_6 rfl (lv_at hl 0 rfl) ?_
  refine vk_getf hx hb h2 hS hown (hts _ wx_f_coderf) (fun _ h => h) ds_lat_7 ?_
  refine lv_if_ne (tgt := 17) hx hb ds_lat_10 (by decide) (fun q => absurd rfl q) (fun _ => ?_)
  refine lv_iconst (v := 1) hx hb ds_lat_13 (by decide) ?_
  refine lv_goto (tgt := 18) hx hb ds_lat_14 (by decide) ?_
  exact W.zret hx hb hr rfl (fun t ht hW => ⟨rfl, ht⟩) (fun _ h => by cases h) ds_lat_18
theorem shr0 (x : Int32) : x >>> ((0 : Int32) &&& 31) = x := by
  rw [show ((0 : Int32) &&& 31) = 0 from by decide]
  simp
theorem cS_len : Met l ys_len (Cond.code ys_len cs_len 1 (some .int) :: lw_g) (rmj 1) (sP A b adv M f [.ref b]) (QcRead (Int32.ofNat M)) 0 0 (fun _ => False) := by
  refine Met.ofW (cc := cs_len) (maxL := 1) (ret := some .int) (by decide +kernel) rfl ?_
  intro p e s m args below meth c s₁ B hml hv
  obtain ⟨rfl, hF⟩ := hv
  obtain ⟨h1, h2, h3, h4, h5, h6⟩ := id hF
  have hx := B.exec
  have hb := B.bytes
  have hr := B.returns
  have hlocks := B.notSynchronized
  have hts : ∀ w ∈ lw_g, w.before [Value.ref b].toArray s = true := fun w hw => atoms_spec (ws := Cond.code ys_len cs_len 1 (some .int) :: lw_g) B.pre w (List.mem_cons_of_mem _ hw)
  have hown : s.vm.findClass "java/lang/String" = some m.cls := findClass_of_methodNamed B.named
  have hl := lv_entry ([.ref b]) (n := 1) (Nat.le_of_ble_eq_true rfl)
  rw [lg_entry_eq]
  generalize (lg_sl ([.ref b]) ++ List.replicate (1 - (lg_sl ([.ref b])).length) Slot.unset).toArray = ls at hl ⊢
  have hl : lv_has ls 1 [(0, .ref b)] := hl
  have hS : va_S A s.heap s.heap [] := va_S.rf
  refine lv_aload_n hx hb ds_len_0 rfl (lv_at hl 0 rfl) ?_
  refine vk_getf hx hb h3 hS hown (hts _ wx_f_value) (fun _ h => h) ds_len_1 ?_
  refine va_tlen hx hb h4 hS rfl ds_len_4 ?_
  refine lv_aload_n hx hb ds_len_5 rfl (lv_at hl 0 rfl) ?_
  refine W.callR (W.runV (C := "java/lang/String") (b := b) (As := []) (rest := [.int (Int32.ofNat M)]) (g := F0 m 6 ls [.ref b, .int (Int32.ofNat M)]) (own := "java/lang/String") (nL := 1) ⟨hx, hb, hml, hown, hts⟩ (cS_coder (A := A) (b := b) (adv := adv) (M := M) (f := f)) ⟨callB_of 0 hts (good_g (fun w hw => (List.mem_cons.mp hw).elim (fun q => by rw [q]; exact wx_coderC) id)) rfl rfl rfl (hts _ wx_i_str) (hts _ wx_l_coder) (by decide +kernel) ⟨by decide, by decide⟩, hts _ wx_coderI, hts _ wx_coderV⟩ ⟨sP.blind, va_Orecv h1 hS, fun U hU hW => sP.at hF U hU hW⟩ rfl rfl hl.1 rfl (by show 2 * 0 + (1 + 0) ≤ 8; decide) ds_len_6 ⟨Nat.zero_le _, Nat.zero_le _⟩) ?_
  refine lv_ishr (x := Int32.ofNat M) (y := 0) hx hb ds_len_9 ?_
  rw [shr0]
  exact W.iret hx hb hr (fun t ht hW => ⟨rfl, ht⟩) (fun _ h => by cases h) ds_len_10
theorem cS_pre {x y : Int32} (h0 : ¬ x < 0) (h1 : x < y) (o : Option Nat) : Met l ys_pre (Cond.code ys_pre cs_pre 3 (some .int) :: lw_g) (rmj 0) (fun v _ => v = [.int x, .int y, va_rf o].toArray) (QcRead x) 0 0 (fun _ => False) := by
  refine Met.ofW (cc := cs_pre) (maxL := 3) (ret := some .int) (by decide +kernel) rfl ?_
  intro p e s m args below meth c s₁ B hml hv
  subst hv
  have hx := B.exec
  have hb := B.bytes
  have hr := B.returns
  have hlocks := B.notSynchronized
  rw [lg_entry_eq]
  have hl : lv_has (lg_sl [.int x, .int y, va_rf o] ++ List.replicate (3 - (lg_sl [.int x, .int y, va_rf o]).length) Slot.unset).toArray 3 [(0, .int x), (1, .int y)] := by
    cases o with
    | none => exact lv_sub (lv_entry [.int x, .int y, .null] (n := 3) (Nat.le_of_ble_eq_true rfl)) [0, 1] rfl
    | some q => exact lv_sub (lv_entry [.int x, .int y, .ref q] (n := 3) (Nat.le_of_ble_eq_true rfl)) [0, 1] rfl
  generalize (lg_sl [.int x, .int y, va_rf o] ++ List.replicate (3 - (lg_sl [.int x, .int y, va_rf o]).length) Slot.unset).toArray = ls at hl ⊢
  refine lv_iload_n hx hb ds_pre_0 rfl (lv_at hl 0 rfl) ?_
  refine lv_if_lt (tgt := 9) hx hb ds_pre_1 (by decide) (fun q => absurd q h0) (fun _ => ?_)
  refine lv_iload_n hx hb ds_pre_4 rfl (lv_at hl 0 rfl) ?_
  refine lv_iload_n hx hb ds_pre_5 rfl (lv_at hl 1 rfl) ?_
  refine lv_icmp_lt (tgt := 16) hx hb ds_pre_6 (by decide) (fun _ => ?_) (fun q => absurd h1 q)
  refine lv_iload_n hx hb ds_pre_16 rfl (lv_at hl 0 rfl) ?_
  exact W.iret hx hb hr (fun t ht hW => ⟨rfl, ht⟩) (fun _ h => by cases h) ds_pre_17
def QcNone : Array Value → State → Outcome → State → Prop := fun _ st o t => o = .returned none ∧ t.heap = st.heap
theorem cS_chk {x y : Int32} (h0 : ¬ x < 0) (h1 : x < y) : Met l ys_chk (Cond.code ys_chk cs_chk 2 none :: lw_g) (rmj 1) (sP A b adv M f [.int x, .int y]) QcNone 0 0 (fun _ => False) := by
  refine Met.ofW (cc := cs_chk) (maxL := 2) (ret := none) (by decide +kernel) rfl ?_
  intro p e s m args below meth c s₁ B hml hv
  obtain ⟨rfl, hF⟩ := hv
  obtain ⟨-, -, -, -, -, h6⟩ := id hF
  have hx := B.exec
  have hb := B.bytes
  have hr := B.returns
  have hlocks := B.notSynchronized
  have hts : ∀ w ∈ lw_g, w.before [Value.int x, Value.int y].toArray s = true := fun w hw => atoms_spec (ws := Cond.code ys_chk cs_chk 2 none :: lw_g) B.pre w (List.mem_cons_of_mem _ hw)
  have hown : s.vm.findClass "java/lang/String" = some m.cls := findClass_of_methodNamed B.named
  have hl := lv_entry ([.int x, .int y]) (n := 2) (Nat.le_of_ble_eq_true rfl)
  rw [lg_entry_eq]
  generalize (lg_sl ([.int x, .int y]) ++ List.replicate (2 - (lg_sl ([.int x, .int y])).length) Slot.unset).toArray = ls at hl ⊢
  have hl : lv_has ls 2 [(0, .int x), (1, .int y)] := hl
  have hS : va_S A s.heap s.heap [] := va_S.rf
  obtain ⟨o, ho⟩ : ∃ o : Option Nat, va_Z "jdk/internal/util/Preconditions" "SIOOBE_FORMATTER" "Ljava/util/function/BiFunction;" (va_rf o) A s s.heap := by
    rcases h6 with h | ⟨t, h⟩
    · exact ⟨none, h⟩
    · exact ⟨some t, h⟩
  refine lv_iload_n hx hb ds_chk_0 rfl (lv_at hl 0 rfl) ?_
  refine lv_iload_n hx hb ds_chk_1 rfl (lv_at hl 1 rfl) ?_
  refine va_gets hx hb ho hS hown (hts _ wx_f_sio) (fun _ h => h) ds_chk_2 ?_
  refine W.callR (W.runS (As := [.int x, .int y, va_rf o]) (rest := []) (g := F0 m 5 ls [va_rf o, .int y, .int x]) (own := "java/lang/String") (nL := 2) ⟨hx, hb, hml, hown, hts⟩ (cS_pre h0 h1 o) ⟨callB_of 3 hts (good_g (fun w hw => (List.mem_cons.mp hw).elim (fun q => by rw [q]; exact wx_preC) id)) rfl rfl rfl (hts _ wx_i_prec) (hts _ wx_l_pre) (by decide +kernel) ⟨by decide, by decide⟩, hts _ wx_preS⟩ ⟨fun _ _ _ _ q => q, fun _ _ _ => rfl⟩ rfl rfl hl.1 rfl (by show 2 * 0 + _ ≤ 8; decide) ds_chk_5 ⟨Nat.zero_le _, Nat.zero_le _⟩) ?_
  refine lv_pop hx hb ds_chk_8 rfl ?_
  exact W.vret hx hb hr (fun t ht hW => ⟨rfl, ht⟩) (fun _ h => by cases h) ds_chk_9
theorem chr_ok : ∀ n : Fin 128, (((Int32.ofNat n.val &&& 255).toUInt32 % 65536).toInt32 = Int32.ofNat n.val) ∧ narrow .char (.int (Int32.ofNat n.val)) = .int (Int32.ofNat n.val) := by decide +kernel
theorem cS_lchat {i : Int32} (hi : vp_in i M) (hM : M < 2147483648) (hf : ∃ n : Fin 128, f i.toNatClampNeg = Int32.ofNat n.val) : Met l ys_lchat (Cond.code ys_lchat cs_lchat 2 (some .char) :: lw_g) (rmj 2) (sP A b adv M f [.ref adv, .int i]) (QcRead (f i.toNatClampNeg)) 0 0 (fun _ => False) := by
  refine Met.ofW (cc := cs_lchat) (maxL := 2) (ret := some .char) (by decide +kernel) rfl ?_
  intro p e s m args below meth c s₁ B hml hv
  obtain ⟨rfl, hF⟩ := hv
  obtain ⟨h1, h2, h3, h4, h5, h6⟩ := id hF
  obtain ⟨n, hn⟩ := hf
  obtain ⟨n1, n2⟩ := chr_ok n
  have hx := B.exec
  have hb := B.bytes
  have hr := B.returns
  have hlocks := B.notSynchronized
  have hts : ∀ w ∈ lw_g, w.before [Value.ref adv, Value.int i].toArray s = true := fun w hw => atoms_spec (ws := Cond.code ys_lchat cs_lchat 2 (some .char) :: lw_g) B.pre w (List.mem_cons_of_mem _ hw)
  have hown : s.vm.findClass "java/lang/StringLatin1" = some m.cls := findClass_of_methodNamed B.named
  have hl := lv_entry ([.ref adv, .int i]) (n := 2) (Nat.le_of_ble_eq_true rfl)
  rw [lg_entry_eq]
  generalize (lg_sl ([.ref adv, .int i]) ++ List.replicate (2 - (lg_sl ([.ref adv, .int i])).length) Slot.unset).toArray = ls at hl ⊢
  have hl : lv_has ls 2 [(0, .ref adv), (1, .int i)] := hl
  have hS : va_S A s.heap s.heap [] := va_S.rf
  have hi' := vp_in_iff.mp hi
  have hi0 : ¬ i < 0 := fun q => hi (Or.inl q)
  have hi1 : i < Int32.ofNat M := by
    rw [Int32.lt_iff_toInt_lt, show (Int32.ofNat M).toInt = (M : Int) from nI_toInt (by omega)]
    exact hi'.2
  refine lv_iload_n hx hb ds_lchat_0 rfl (lv_at hl 1 rfl) ?_
  refine lv_aload_n hx hb ds_lchat_1 rfl (lv_at hl 0 rfl) ?_
  refine va_tlen hx hb h4 hS rfl ds_lchat_2 ?_
  refine W.callX (W.runS (As := [.int i, .int (Int32.ofNat M)]) (rest := []) (g := F0 m 3 ls [.int (Int32.ofNat M), .int i]) (own := "java/lang/StringLatin1") (nL := 2) ⟨hx, hb, hml, hown, hts⟩ (cS_chk (A := A) (b := b) (adv := adv) (M := M) (f := f) hi0 hi1) ⟨callB_of 2 hts (good_g (fun w hw => (List.mem_cons.mp hw).elim (fun q => by rw [q]; exact wx_chkC) id)) rfl rfl rfl (hts _ wx_i_str) (hts _ wx_l_chk) (by decide +kernel) ⟨by decide, by decide⟩, hts _ wx_chkS⟩ ⟨sP.blind, fun U hU hW => sP.at hF U hU hW⟩ rfl rfl hl.1 rfl (by show 2 * 0 + _ ≤ 8; decide) ds_lchat_3 ⟨Nat.zero_le _, Nat.zero_le _⟩) (fun _ q => q.elim) (fun v st₀ t e0 hq => ?_)
  obtain ⟨hv, hh⟩ := hq
  cases hv
  rw [hh, e0]
  refine W.eq (g2 := F0 m 6 ls []) rfl ?_
  refine lv_aload_n hx hb ds_lchat_6 rfl (lv_at hl 0 rfl) ?_
  refine lv_iload_n hx hb ds_lchat_7 rfl (lv_at hl 1 rfl) ?_
  refine va_tb hx hb h4 hS hi rfl ds_lchat_8 ?_
  refine lv_sipush (v := 255) hx hb ds_lchat_9 (by decide) ?_
  refine lv_iand hx hb ds_lchat_12 ?_
  refine lv_i2c (v := f i.toNatClampNeg) hx hb ds_lchat_13 (by rw [hn]; exact n1) ?_
  exact W.zret hx hb hr (by rw [hn]; exact n2) (fun t ht hW => ⟨rfl, ht⟩) (fun _ h => by cases h) ds_lchat_14
theorem cS_chat {i : Int32} (hi : vp_in i M) (hM : M < 2147483648) (hf : ∃ n : Fin 128, f i.toNatClampNeg = Int32.ofNat n.val) : Met l ys_chat (Cond.code ys_chat cs_chat 2 (some .char) :: lw_g) (rmj 3) (sP A b adv M f [.ref b, .int i]) (QcRead (f i.toNatClampNeg)) 0 0 (fun _ => False) := by
  refine Met.ofW (cc := cs_chat) (maxL := 2) (ret := some .char) (by decide +kernel) rfl ?_
  intro p e s m args below meth c s₁ B hml hv
  obtain ⟨rfl, hF⟩ := hv
  obtain ⟨h1, h2, h3, h4, h5, h6⟩ := id hF
  obtain ⟨n, hn⟩ := id hf
  obtain ⟨n1, n2⟩ := chr_ok n
  have hx := B.exec
  have hb := B.bytes
  have hr := B.returns
  have hlocks := B.notSynchronized
  have hts : ∀ w ∈ lw_g, w.before [Value.ref b, Value.int i].toArray s = true := fun w hw => atoms_spec (ws := Cond.code ys_chat cs_chat 2 (some .char) :: lw_g) B.pre w (List.mem_cons_of_mem _ hw)
  have hown : s.vm.findClass "java/lang/String" = some m.cls := findClass_of_methodNamed B.named
  have hl := lv_entry ([.ref b, .int i]) (n := 2) (Nat.le_of_ble_eq_true rfl)
  rw [lg_entry_eq]
  generalize (lg_sl ([.ref b, .int i]) ++ List.replicate (2 - (lg_sl ([.ref b, .int i])).length) Slot.unset).toArray = ls at hl ⊢
  have hl : lv_has ls 2 [(0, .ref b), (1, .int i)] := hl
  have hS : va_S A s.heap s.heap [] := va_S.rf
  refine lv_aload_n hx hb ds_chat_0 rfl (lv_at hl 0 rfl) ?_
  refine W.callR (W.runV (C := "java/lang/String") (b := b) (As := []) (rest := []) (g := F0 m 1 ls [.ref b]) (own := "java/lang/String") (nL := 2) ⟨hx, hb, hml, hown, hts⟩ (cS_lat (A := A) (b := b) (adv := adv) (M := M) (f := f)) ⟨callB_of 0 hts (good_g (fun w hw => (List.mem_cons.mp hw).elim (fun q => by rw [q]; exact wx_latC) id)) rfl rfl rfl (hts _ wx_i_str) (hts _ wx_l_lat) (by decide +kernel) ⟨by decide, by decide⟩, hts _ wx_latI, hts _ wx_latV⟩ ⟨sP.blind, va_Orecv h1 hS, fun U hU hW => sP.at hF U hU hW⟩ rfl rfl hl.1 rfl (by show 2 * 0 + _ ≤ 8; decide) ds_chat_1 ⟨Nat.zero_le _, Nat.zero_le _⟩) ?_
  refine lv_if_eq (tgt := 16) hx hb ds_chat_4 (by rfl) (fun q => absurd q (by decide)) (fun _ => ?_)
  refine lv_aload_n hx hb ds_chat_7 rfl (lv_at hl 0 rfl) ?_
  refine vk_getf hx hb h3 hS hown (hts _ wx_f_value) (fun _ h => h) ds_chat_8 ?_
  refine lv_iload_n hx hb ds_chat_11 rfl (lv_at hl 1 rfl) ?_
  refine W.callR (W.runS (As := [.ref adv, .int i]) (rest := []) (g := F0 m 12 ls [.int i, .ref adv]) (own := "java/lang/String") (nL := 2) ⟨hx, hb, hml, hown, hts⟩ (cS_lchat (A := A) (b := b) (adv := adv) (M := M) (f := f) hi hM hf) ⟨callB_of 2 hts (good_g (fun w hw => (List.mem_cons.mp hw).elim (fun q => by rw [q]; exact wx_lchatC) id)) rfl rfl rfl (hts _ wx_i_lat1) (hts _ wx_l_lchat) (by decide +kernel) ⟨by decide, by decide⟩, hts _ wx_lchatS⟩ ⟨sP.blind, fun U hU hW => sP.at hF U hU hW⟩ rfl rfl hl.1 rfl (by show 2 * 0 + _ ≤ 8; decide) ds_chat_12 ⟨Nat.zero_le _, Nat.zero_le _⟩) ?_
  exact W.zret hx hb hr (by rw [hn]; exact n2) (fun t ht hW => ⟨rfl, ht⟩) (fun _ h => by cases h) ds_chat_15
end Str
theorem nl_spec {o ix j : Nat} (hj : j = 25 ∨ j = 26) (h : (mNl o).any (fun e => e.1.beq ix && e.2.1.beq j) = true) : (j = 25 → Cond.methodLink (mO o) ix ys_len ∈ lw_g) ∧ (j = 26 → Cond.methodLink (mO o) ix ys_chat ∈ lw_g) := by
  obtain ⟨q, h1, h2⟩ := List.any_eq_true.mp h
  simp only [Bool.and_eq_true] at h2
  have h3 := mNl_ok o q h1
  unfold mNlb at h3
  rw [Nat.eq_of_beq_eq_true h2.1, Nat.eq_of_beq_eq_true h2.2] at h3
  refine ⟨fun e => ?_, fun e => ?_⟩
  · rw [if_pos e] at h3; exact mw_in h3
  · rw [if_neg (by omega)] at h3; exact mw_in h3
section StrOps
variable {l : Launch} {D : va_G} {A : Nat → Prop} {ro : Int → Nat} {h0 : Int → Int → Int} {sh0 : Int → Int × Int} {p : Program} {e : Env} {R : Room} {s : State} {m : MethodId} {args : Array Value} {below : List Frame} {meth : Method} {c : Code} {Q : State → Prop} {n0 t0 : Int} {ad0 : List Nat} {k i : Nat} {L st : List mV} {σ : mS} {N : Nat → List mV → List mV → mS → Option (Int × mS)} {z : Int × mS} {ins : Instr} {len a b : Nat} {x : Int} {t : List (Int × Nat)}
theorem str_at {H : Heap} {ws : va_W} {tys : List (ClassId × FieldType)} (h : mRel D A ro h0 sh0 σ ws tys s H) (kw : mKW A ro h0 sh0 s) {r : Int} (hk : (σ.2.1 r).1 = 300) : r < 0 ∧ (sh0 r).1 = 300 ∧ σ.1 r = h0 r ∧ σ.2.1 r = sh0 r ∧ ∃ adv, sF A (ro r) adv (sh0 r).2.toNat (fun j => Int32.ofInt (h0 r j)) s ∧ ∀ j, 0 ≤ h0 r j ∧ h0 r j < 128 := by
  rcases Int.lt_or_le 0 r with g | g
  · exfalso
    obtain ⟨q, -, g2, -⟩ := h.cell g (fun w => by rw [w] at hk; simp at hk)
    rcases g2 with ⟨c', q', e1, e2, -⟩ | ⟨ty, kd, n, cA, f, t0, e1, e2, -⟩ | ⟨c', q', n, cA, f, t0, e1, e2, -⟩
    · have : c' < 11 := (List.getElem?_eq_some_iff.mp e1).1
      rw [e2] at hk; simp at hk; omega
    · rw [e2] at hk; simp at hk
      rcases e1 with ⟨e, -⟩ | ⟨e, -⟩ | ⟨e, -⟩ <;> omega
    · have : c' < 11 := (List.getElem?_eq_some_iff.mp e1).1
      rw [e2] at hk; simp at hk; omega
  · obtain ⟨z1, z2⟩ := h.1.2.1 r g
    rw [z2] at hk
    have hneg : r < 0 := by
      rcases kw.1.1 r g with w | ⟨w, -⟩ | ⟨-, w⟩
      · omega
      · omega
      · exact w
    obtain ⟨adV, hV⟩ := kw.2.2.1
    obtain ⟨k1, k2, k3, k4, k5⟩ := hV r g hk
    exact ⟨hneg, hk, z1, z2, adV r, ⟨k1, k2, k3, k4, kw.2.2.2.2.1.2.2.1, kw.2.2.2.2.1.2.2.2⟩, k5⟩
theorem ms_25 (cx : mCx k p s m args meth c) (kw : mKW A ro h0 sh0 s) (nxt : ∀ (i : Nat) (L st : List mV) (σ1 : mS), N i L st σ1 = some z → NN σ1 → 0 ≤ σ1.2.2.1 → (mNp l D A ro h0 sh0 p e R s m args below meth c Q n0 t0 ad0 k (mPc k i) (L) (st) (σ1))) (hf : 8 ≤ R.frames) (hlo : 512 ≤ R.locals) (hcR : (z.2.2.2.1 - n0).toNat ≤ R.cells) (hsR : (z.2.2.2.2 - t0).toNat ≤ R.slots) (hgr : ∀ i L st σ1, N i L st σ1 = some z → leS σ1 z.2) (hNN : NN σ) (hnn : 0 ≤ σ.2.2.1) (hd : decode (mBy k) (mPc k i) = .ok (ins, len)) (hck : mck25 k i ins len a b x t = true) {r : Int} (h : cond ((mcat st).ble 8) ((tln r σ).bind fun v => N (i + 1) L ((1, v) :: st) σ) none = some z) : (mNp l D A ro h0 sh0 p e R s m args below meth c Q n0 t0 ad0 k (mPc k i) (L) ((3, r) :: st) (σ)) := by
  obtain ⟨h8, h⟩ := cond_some h
  have h8 := Nat.le_of_ble_eq_true h8
  obtain ⟨v, h1, h2⟩ := bind_some h
  unfold tln at h1
  split at h1
  · rename_i hk
    cases h1
    have h4 := hgr _ _ _ _ h2 hNN
    have hN := nxt _ _ _ _ h2 hNN hnn
    unfold mck25 at hck
    split at hck
    · rw [Bool.and_eq_true] at hck
      obtain ⟨e1, e2⟩ := mnx_spec hck.1
      subst e1; rw [e2] at hN
      have hl := (nl_spec (Or.inl rfl) hck.2).1 rfl
      intro g1 g2 H locs ls ws tys hB
      obtain ⟨hneg, s1, s2, s3, adv, hF, -⟩ := str_at hB.1 kw hk
      have hlen := kw.1.2 r (by omega)
      have h5 := hN g1 g2 H locs ls ws tys (hB.pop.push (show rgI (σ.2.1 r).2 by rw [s3]; unfold rgI; omega))
      rw [List.map_cons, encV3 (encO_neg hneg)]
      refine W.callR (r := Int32.ofNat (sh0 r).2.toNat) (W.runV (C := "java/lang/String") (b := ro r) (As := []) (rest := st.map (encV (mAd ws) ro)) (g := F0 m (mPc k i) ls (.ref (ro r) :: st.map (encV (mAd ws) ro))) (own := mO (mI0 k).1) ⟨cx.1, cx.2.1, cx.2.2.1, cx.2.2.2.1, cx.2.2.2.2.1⟩ (cS_len (A := A) (b := ro r) (adv := adv) (M := (sh0 r).2.toNat) (f := fun j => Int32.ofInt (h0 r j))) ⟨callB_of 0 cx.2.2.2.2.1 (good_g (fun w hw => (List.mem_cons.mp hw).elim (fun q => by rw [q]; exact wx_lenC) id)) rfl rfl rfl (cx.2.2.2.2.1 _ wx_i_str) (cx.2.2.2.2.1 _ hl) (by decide +kernel) ⟨by show 1 + 1 ≤ _; omega, by show 8 + (1 + 11) + 64 * 1 ≤ _; omega⟩, cx.2.2.2.2.1 _ wx_lenI, cx.2.2.2.2.1 _ wx_lenV⟩ ⟨sP.blind, va_Orecv hF.1 hB.2.1, fun U hU hW => ⟨rfl, hF.move (fun a' z1 z2 => by rw [hU]; exact hB.2.1.2.1 a' z1 z2) hW.alike⟩⟩ rfl rfl (by rw [← cx.2.2.1]; exact (hB.siz cx).symm) rfl (by show 2 * 0 + _ ≤ 8; rw [hB.pop.cat]; omega) hd ⟨by omega, by omega⟩) ?_
      rw [List.map_cons, show encV (mAd ws) ro (1, (σ.2.1 r).2) = .int (Int32.ofNat (sh0 r).2.toNat) from by rw [s3]; show Value.int (Int32.ofInt (sh0 r).2) = _; rw [← Int32.ofInt_eq_ofNat]; congr 2; omega] at h5
      exact h5
    · cases hck
  · cases h1
theorem ms_26 (cx : mCx k p s m args meth c) (kw : mKW A ro h0 sh0 s) (nxt : ∀ (i : Nat) (L st : List mV) (σ1 : mS), N i L st σ1 = some z → NN σ1 → 0 ≤ σ1.2.2.1 → (mNp l D A ro h0 sh0 p e R s m args below meth c Q n0 t0 ad0 k (mPc k i) (L) (st) (σ1))) (hf : 8 ≤ R.frames) (hlo : 512 ≤ R.locals) (hcR : (z.2.2.2.1 - n0).toNat ≤ R.cells) (hsR : (z.2.2.2.2 - t0).toNat ≤ R.slots) (hgr : ∀ i L st σ1, N i L st σ1 = some z → leS σ1 z.2) (hNN : NN σ) (hnn : 0 ≤ σ.2.2.1) (hd : decode (mBy k) (mPc k i) = .ok (ins, len)) (hck : mck26 k i ins len a b x t = true) {r j : Int} (h : cond ((mcat st).ble 8) ((tch r j σ).bind fun v => N (i + 1) L ((1, v) :: st) σ) none = some z) : (mNp l D A ro h0 sh0 p e R s m args below meth c Q n0 t0 ad0 k (mPc k i) (L) ((1, j) :: (3, r) :: st) (σ)) := by
  obtain ⟨h8, h⟩ := cond_some h
  have h8 := Nat.le_of_ble_eq_true h8
  obtain ⟨v, h1, h2⟩ := bind_some h
  unfold tch at h1
  split at h1
  · rename_i hk
    cases h1
    have h4 := hgr _ _ _ _ h2 hNN
    have hN := nxt _ _ _ _ h2 hNN hnn
    unfold mck26 at hck
    split at hck
    · rw [Bool.and_eq_true] at hck
      obtain ⟨e1, e2⟩ := mnx_spec hck.1
      subst e1; rw [e2] at hN
      have hl := (nl_spec (Or.inr rfl) hck.2).2 rfl
      intro g1 g2 H locs ls ws tys hB
      have hj : rgI j := hB.top
      obtain ⟨hneg, s1, s2, s3, adv, hF, hch⟩ := str_at hB.1 kw hk.1
      have hlen := kw.1.2 r (by omega)
      have hk3 := hk.2.2
      rw [s3] at hk3
      have hcj := hch j
      have h5 := hN g1 g2 H locs ls ws tys (hB.pop.pop.push (show rgI (σ.1 r j) by rw [s2]; unfold rgI; omega))
      rw [List.map_cons, List.map_cons, encV3 (encO_neg hneg)]
      have hjn : ((Int32.ofInt j).toNatClampNeg : Int) = j := by rw [i32_clamp hj]; omega
      refine W.callR (r := Int32.ofInt (h0 r ((Int32.ofInt j).toNatClampNeg : Int))) (W.runV (C := "java/lang/String") (b := ro r) (As := [.int (Int32.ofInt j)]) (rest := st.map (encV (mAd ws) ro)) (g := F0 m (mPc k i) ls (.int (Int32.ofInt j) :: .ref (ro r) :: st.map (encV (mAd ws) ro))) (own := mO (mI0 k).1) ⟨cx.1, cx.2.1, cx.2.2.1, cx.2.2.2.1, cx.2.2.2.2.1⟩ (cS_chat (A := A) (b := ro r) (adv := adv) (M := (sh0 r).2.toNat) (f := fun j => Int32.ofInt (h0 r j)) (i32_in hj hk.2.1 (by omega)) (by omega) ⟨⟨(h0 r j).toNat, by omega⟩, by dsimp only; rw [hjn, ← Int32.ofInt_eq_ofNat]; congr 1; omega⟩) ⟨callB_of 1 cx.2.2.2.2.1 (good_g (fun w hw => (List.mem_cons.mp hw).elim (fun q => by rw [q]; exact wx_chatC) id)) rfl rfl rfl (cx.2.2.2.2.1 _ wx_i_str) (cx.2.2.2.2.1 _ hl) (by decide +kernel) ⟨by show 3 + 1 ≤ _; omega, by show 8 + (2 + 11) + 64 * 3 ≤ _; omega⟩, cx.2.2.2.2.1 _ wx_chatI, cx.2.2.2.2.1 _ wx_chatV⟩ ⟨sP.blind, va_Orecv hF.1 hB.2.1, fun U hU hW => ⟨rfl, hF.move (fun a' z1 z2 => by rw [hU]; exact hB.2.1.2.1 a' z1 z2) hW.alike⟩⟩ rfl rfl (by rw [← cx.2.2.1]; exact (hB.siz cx).symm) rfl (by show 2 * 0 + _ ≤ 8; rw [hB.pop.pop.cat]; omega) hd ⟨by omega, by omega⟩) ?_
      rw [List.map_cons, show encV (mAd ws) ro (1, σ.1 r j) = .int (Int32.ofInt (h0 r ((Int32.ofInt j).toNatClampNeg : Int))) from by rw [s2, hjn]; rfl] at h5
      exact h5
    · cases hck
  · cases h1
end StrOps
