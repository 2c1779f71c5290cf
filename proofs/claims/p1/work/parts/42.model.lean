def zs_m_more : List Cond := .code yX12_more cX12_more 3 (some .long) :: (([.constantLong RX12 214 (27)] : List Cond) ++ [])
theorem gd_m_more : (zs_m_more).all goodWord = true := by decide +kernel
abbrev ws_m_more (cB cI cJ cZ cQ : ClassId) (iC : Int32) (yN : Int64) : va_W := []
set_option maxHeartbeats 4000000 in
set_option maxRecDepth 100000 in
theorem m_more (l : Launch) (dC : Nat → ClassId) (dI : Nat → Nat → Nat) (cB cI cJ cZ cQ : ClassId) (iC : Int32) (yN : Int64) (sz : Nat) : Met l yX12_more zs_m_more ({ frames := 0, cells := 0, slots := 0, locals := 0 } : Room) (zPc [.long yN, .int iC] (dC, dI) (zTY cB cI cJ cZ cQ) (ws_m_more cB cI cJ cZ cQ iC yN) sz) (va_Ql (fun (_ : Int64) (_ : Unit) => True) (fun (_ : Unit) (_ : State) => True) (va_A (ws_m_more cB cI cJ cZ cQ iC yN) sz)) 0 0 (va_A (ws_m_more cB cI cJ cZ cQ iC yN) sz) := by
  refine Met.ofW (cc := cX12_more) (maxL := 3) (ret := (some .long)) (by decide) rfl ?_
  intro p e s m args below meth c s₁ B hml hv
  obtain ⟨rfl, hsz, hP0, hK, hO, hD0⟩ := hv
  have hx := B.exec
  have hb := B.bytes
  have hr := B.returns
  have hts := atoms_spec (ws := zs_m_more) B.pre
  have hown : s.vm.findClass RX12 = some m.cls := findClass_of_methodNamed B.named
  have hlocks := B.notSynchronized
  subst hsz
  have hD8 := hD0.self (sz := s.heap.size)
  generalize hAe : va_A (ws_m_more cB cI cJ cZ cQ iC yN) s.heap.size = A at hD8 ⊢
  have hA : ∀ q : Nat, s.heap.size ≤ q → A q := fun q h => by rw [← hAe]; exact Or.inr h
  have hS : va_S A s.heap s.heap [] := va_S.rf
  have hP : va_P (dC, dI) vwCl [] s.heap := hP0
  have hD : va_D A [] := hD8
  have hl := lv_entry ([.long yN, .int iC]) (n := 3) (Nat.le_of_ble_eq_true rfl)
  rw [lg_entry_eq]
  generalize (lg_sl ([.long yN, .int iC]) ++ List.replicate (3 - (lg_sl ([.long yN, .int iC])).length) Slot.unset).toArray = ls at hl ⊢
  have hl : lv_has ls 3 [(0, .long yN), (2, .int iC)] := hl
  clear hP0 hD8 hD0
  refine zH0 (fun H hP hS => ?_) hP hS
  refine lv_iload_n hx hb dX12_more_0 rfl (lv_at hl 1 rfl) ?_
  refine lv_if_ne (tgt := 8) hx hb dX12_more_1 (by decide) (fun c1 => ?_) (fun c1 => ?_)
  · skip
    refine lv_ldc2 (v := 27) hx hb hown (hts (.constantLong RX12 214 (27)) (by decide +kernel)) dX12_more_8 ?_
    refine lv_lload_n hx hb dX12_more_11 rfl (lv_at hl 0 rfl) ?_
    refine lv_lmul hx hb dX12_more_12 ?_
    refine lv_topl (fun y2 _ => ?_)
    refine lv_iload_n hx hb dX12_more_13 rfl (lv_at hl 1 rfl) ?_
    refine lv_bipush (v := 97) hx hb dX12_more_14 (by decide) ?_
    refine lv_isub hx hb dX12_more_16 ?_
    refine lv_topi (fun x3 ex3 => ?_)
    refine lv_iconst (v := 1) hx hb dX12_more_17 (by decide) ?_
    refine lv_iadd hx hb dX12_more_18 ?_
    refine lv_topi (fun x4 ex4 => ?_)
    refine lv_i2l hx hb dX12_more_19 rfl ?_
    refine lv_topl (fun y5 _ => ?_)
    refine lv_ladd hx hb dX12_more_20 ?_
    refine lv_topl (fun y6 _ => ?_)
    exact W.lret (v := y6) hx hb hr (fun t ht hW => ⟨⟨y6, (), rfl, trivial, trivial⟩, hS.F ht⟩) hS.2.2 dX12_more_21
  · skip
    have ziC : iC = 0 := z_inj (by simp only [Int32.lt_iff_toInt_lt, Int32.le_iff_toInt_le, ← Int32.toInt_inj, zi_m1, zi_0, zi_1, zi_6, zi_8, zi_M, zi_16, zi_20, zi_23, zi_24, zi_27, zi_29, zi_30, zi_40, zi_500, zi_700, zi_1000] at c1 ⊢<;> omega)
    subst ziC
    refine lv_lload_n hx hb dX12_more_4 rfl (lv_at hl 0 rfl) ?_
    refine lv_goto (tgt := 21) hx hb dX12_more_5 (by decide) ?_
    exact W.lret (v := yN) hx hb hr (fun t ht hW => ⟨⟨yN, (), rfl, trivial, trivial⟩, hS.F ht⟩) hS.2.2 dX12_more_21

def zs_m_word : List Cond := .code yX12_word cX12_word 8 (some .long) :: (([.methodLink RX12 216 yX12_more, .static yX12_more, .initialized RX12] : List Cond) ++ (zs_m_more ++ []))
theorem gd_m_word : (zs_m_word).all goodWord = true := by decide +kernel
theorem g_m_word_m_more_216 : GoodIn zs_m_word (va_wsS RX12 216 yX12_more zs_m_more) := goodIn_app (goodIn_of _ (by decide +kernel)) (goodIn_sub (fun w h => List.mem_cons_of_mem _ (List.mem_append_right _ (List.mem_append_left _ h))) gd_m_more)
abbrev ws_m_word (cB cI cJ cZ cQ : ClassId) (i0 : Int32) (i1 : Int32) (i2 : Int32) (i3 : Int32) (i4 : Int32) (i5 : Int32) (i6 : Int32) (i7 : Int32) : va_W := []
set_option maxHeartbeats 4000000 in
set_option maxRecDepth 100000 in
theorem m_word (l : Launch) (dC : Nat → ClassId) (dI : Nat → Nat → Nat) (cB cI cJ cZ cQ : ClassId) (i0 : Int32) (i1 : Int32) (i2 : Int32) (i3 : Int32) (i4 : Int32) (i5 : Int32) (i6 : Int32) (i7 : Int32) (sz : Nat) : Met l yX12_word zs_m_word ({ frames := 1, cells := 0, slots := 0, locals := 22 } : Room) (zPc [.int i0, .int i1, .int i2, .int i3, .int i4, .int i5, .int i6, .int i7] (dC, dI) (zTY cB cI cJ cZ cQ) (ws_m_word cB cI cJ cZ cQ i0 i1 i2 i3 i4 i5 i6 i7) sz) (va_Ql (fun (_ : Int64) (_ : Unit) => True) (fun (_ : Unit) (_ : State) => True) (va_A (ws_m_word cB cI cJ cZ cQ i0 i1 i2 i3 i4 i5 i6 i7) sz)) 0 0 (va_A (ws_m_word cB cI cJ cZ cQ i0 i1 i2 i3 i4 i5 i6 i7) sz) := by
  refine Met.ofW (cc := cX12_word) (maxL := 8) (ret := (some .long)) (by decide) rfl ?_
  intro p e s m args below meth c s₁ B hml hv
  obtain ⟨rfl, hsz, hP0, hK, hO, hD0⟩ := hv
  have hx := B.exec
  have hb := B.bytes
  have hr := B.returns
  have hts := atoms_spec (ws := zs_m_word) B.pre
  have hown : s.vm.findClass RX12 = some m.cls := findClass_of_methodNamed B.named
  have hlocks := B.notSynchronized
  subst hsz
  have hD8 := hD0.self (sz := s.heap.size)
  generalize hAe : va_A (ws_m_word cB cI cJ cZ cQ i0 i1 i2 i3 i4 i5 i6 i7) s.heap.size = A at hD8 ⊢
  have hA : ∀ q : Nat, s.heap.size ≤ q → A q := fun q h => by rw [← hAe]; exact Or.inr h
  have hS : va_S A s.heap s.heap [] := va_S.rf
  have hP : va_P (dC, dI) vwCl [] s.heap := hP0
  have hD : va_D A [] := hD8
  have hl := lv_entry ([.int i0, .int i1, .int i2, .int i3, .int i4, .int i5, .int i6, .int i7]) (n := 8) (Nat.le_of_ble_eq_true rfl)
  rw [lg_entry_eq]
  generalize (lg_sl ([.int i0, .int i1, .int i2, .int i3, .int i4, .int i5, .int i6, .int i7]) ++ List.replicate (8 - (lg_sl ([.int i0, .int i1, .int i2, .int i3, .int i4, .int i5, .int i6, .int i7])).length) Slot.unset).toArray = ls at hl ⊢
  have hl : lv_has ls 8 [(0, .int i0), (1, .int i1), (2, .int i2), (3, .int i3), (4, .int i4), (5, .int i5), (6, .int i6), (7, .int i7)] := hl
  clear hP0 hD8 hD0
  refine zH0 (fun H hP hS => ?_) hP hS
  refine lv_lconst (v := 0) hx hb dX12_word_0 (by decide) ?_
  refine lv_iload_n hx hb dX12_word_1 rfl (lv_at hl 0 rfl) ?_
  have hPc : va_P (dC, dI) vwCl (ws_m_more cB cI cJ cZ cQ i0 0) H := hP.sub [] rfl
  have hDc := hD.sub (ws' := (ws_m_more cB cI cJ cZ cQ i0 0)) [] (by decide) rfl
  have hFc := va_free (wc := (ws_m_more cB cI cJ cZ cQ i0 0)) hD hS hA [] rfl
  refine va_calll (va_runS (As := [.long 0, .int i0]) (rest := []) ⟨hx, hb, hml, hown, hts⟩ (m_more l dC dI cB cI cJ cZ cQ i0 0 H.size) (va_cwS 2 hts g_m_word_m_more_216 rfl rfl rfl (by decide +kernel) ⟨Nat.le_of_ble_eq_true rfl, Nat.le_of_ble_eq_true rfl⟩) ⟨zFB, fun U hU hW => zUp hU hW hPc hK hO hDc⟩ rfl rfl hl.1 rfl (lv_room (Nat.le_of_ble_eq_true rfl)) dX12_word_2 ⟨Nat.le_of_ble_eq_true rfl, Nat.le_of_ble_eq_true rfl⟩) hS (fun q _ h => hFc q h) hFc (fun r1 u t H1 locs ht hvm hw2 hB hz1 hk1 hS => ?_)
  have hP1 : va_P (dC, dI) vwCl [] H1 := zNilP
  have hD1 : va_D (va_A (ws_m_more cB cI cJ cZ cQ i0 0) H.size) [] := zNilD
  obtain ⟨hP, hD⟩ := va_join (wr := []) (w1 := []) hP hD [] [] rfl rfl (by decide) (by decide) hk1 hFc hP1 hD1
  generalize H1 = H at hP hS ⊢
  have hP : va_P (dC, dI) vwCl [] H := hP
  have hD : va_D A [] := hD
  refine lv_iload_n hx hb dX12_word_5 rfl (lv_at hl 1 rfl) ?_
  have hPc : va_P (dC, dI) vwCl (ws_m_more cB cI cJ cZ cQ i1 r1) H := hP.sub [] rfl
  have hDc := hD.sub (ws' := (ws_m_more cB cI cJ cZ cQ i1 r1)) [] (by decide) rfl
  have hFc := va_free (wc := (ws_m_more cB cI cJ cZ cQ i1 r1)) hD hS hA [] rfl
  refine va_calll (va_runS (As := [.long r1, .int i1]) (rest := []) ⟨hx, hb, hml, hown, hts⟩ (m_more l dC dI cB cI cJ cZ cQ i1 r1 H.size) (va_cwS 2 hts g_m_word_m_more_216 rfl rfl rfl (by decide +kernel) ⟨Nat.le_of_ble_eq_true rfl, Nat.le_of_ble_eq_true rfl⟩) ⟨zFB, fun U hU hW => zUp hU hW hPc hK hO hDc⟩ rfl rfl hl.1 rfl (lv_room (Nat.le_of_ble_eq_true rfl)) dX12_word_6 ⟨Nat.le_of_ble_eq_true rfl, Nat.le_of_ble_eq_true rfl⟩) hS (fun q _ h => hFc q h) hFc (fun r3 u t H1 locs ht hvm hw4 hB hz1 hk1 hS => ?_)
  have hP1 : va_P (dC, dI) vwCl [] H1 := zNilP
  have hD1 : va_D (va_A (ws_m_more cB cI cJ cZ cQ i1 r1) H.size) [] := zNilD
  obtain ⟨hP, hD⟩ := va_join (wr := []) (w1 := []) hP hD [] [] rfl rfl (by decide) (by decide) hk1 hFc hP1 hD1
  generalize H1 = H at hP hS ⊢
  have hP : va_P (dC, dI) vwCl [] H := hP
  have hD : va_D A [] := hD
  refine lv_iload_n hx hb dX12_word_9 rfl (lv_at hl 2 rfl) ?_
  have hPc : va_P (dC, dI) vwCl (ws_m_more cB cI cJ cZ cQ i2 r3) H := hP.sub [] rfl
  have hDc := hD.sub (ws' := (ws_m_more cB cI cJ cZ cQ i2 r3)) [] (by decide) rfl
  have hFc := va_free (wc := (ws_m_more cB cI cJ cZ cQ i2 r3)) hD hS hA [] rfl
  refine va_calll (va_runS (As := [.long r3, .int i2]) (rest := []) ⟨hx, hb, hml, hown, hts⟩ (m_more l dC dI cB cI cJ cZ cQ i2 r3 H.size) (va_cwS 2 hts g_m_word_m_more_216 rfl rfl rfl (by decide +kernel) ⟨Nat.le_of_ble_eq_true rfl, Nat.le_of_ble_eq_true rfl⟩) ⟨zFB, fun U hU hW => zUp hU hW hPc hK hO hDc⟩ rfl rfl hl.1 rfl (lv_room (Nat.le_of_ble_eq_true rfl)) dX12_word_10 ⟨Nat.le_of_ble_eq_true rfl, Nat.le_of_ble_eq_true rfl⟩) hS (fun q _ h => hFc q h) hFc (fun r5 u t H1 locs ht hvm hw6 hB hz1 hk1 hS => ?_)
  have hP1 : va_P (dC, dI) vwCl [] H1 := zNilP
  have hD1 : va_D (va_A (ws_m_more cB cI cJ cZ cQ i2 r3) H.size) [] := zNilD
  obtain ⟨hP, hD⟩ := va_join (wr := []) (w1 := []) hP hD [] [] rfl rfl (by decide) (by decide) hk1 hFc hP1 hD1
  generalize H1 = H at hP hS ⊢
  have hP : va_P (dC, dI) vwCl [] H := hP
  have hD : va_D A [] := hD
  refine lv_iload_n hx hb dX12_word_13 rfl (lv_at hl 3 rfl) ?_
  have hPc : va_P (dC, dI) vwCl (ws_m_more cB cI cJ cZ cQ i3 r5) H := hP.sub [] rfl
  have hDc := hD.sub (ws' := (ws_m_more cB cI cJ cZ cQ i3 r5)) [] (by decide) rfl
  have hFc := va_free (wc := (ws_m_more cB cI cJ cZ cQ i3 r5)) hD hS hA [] rfl
  refine va_calll (va_runS (As := [.long r5, .int i3]) (rest := []) ⟨hx, hb, hml, hown, hts⟩ (m_more l dC dI cB cI cJ cZ cQ i3 r5 H.size) (va_cwS 2 hts g_m_word_m_more_216 rfl rfl rfl (by decide +kernel) ⟨Nat.le_of_ble_eq_true rfl, Nat.le_of_ble_eq_true rfl⟩) ⟨zFB, fun U hU hW => zUp hU hW hPc hK hO hDc⟩ rfl rfl hl.1 rfl (lv_room (Nat.le_of_ble_eq_true rfl)) dX12_word_14 ⟨Nat.le_of_ble_eq_true rfl, Nat.le_of_ble_eq_true rfl⟩) hS (fun q _ h => hFc q h) hFc (fun r7 u t H1 locs ht hvm hw8 hB hz1 hk1 hS => ?_)
  have hP1 : va_P (dC, dI) vwCl [] H1 := zNilP
  have hD1 : va_D (va_A (ws_m_more cB cI cJ cZ cQ i3 r5) H.size) [] := zNilD
  obtain ⟨hP, hD⟩ := va_join (wr := []) (w1 := []) hP hD [] [] rfl rfl (by decide) (by decide) hk1 hFc hP1 hD1
  generalize H1 = H at hP hS ⊢
  have hP : va_P (dC, dI) vwCl [] H := hP
  have hD : va_D A [] := hD
  refine lv_iload hx hb dX12_word_17 (lv_at hl 4 rfl) ?_
  have hPc : va_P (dC, dI) vwCl (ws_m_more cB cI cJ cZ cQ i4 r7) H := hP.sub [] rfl
  have hDc := hD.sub (ws' := (ws_m_more cB cI cJ cZ cQ i4 r7)) [] (by decide) rfl
  have hFc := va_free (wc := (ws_m_more cB cI cJ cZ cQ i4 r7)) hD hS hA [] rfl
  refine va_calll (va_runS (As := [.long r7, .int i4]) (rest := []) ⟨hx, hb, hml, hown, hts⟩ (m_more l dC dI cB cI cJ cZ cQ i4 r7 H.size) (va_cwS 2 hts g_m_word_m_more_216 rfl rfl rfl (by decide +kernel) ⟨Nat.le_of_ble_eq_true rfl, Nat.le_of_ble_eq_true rfl⟩) ⟨zFB, fun U hU hW => zUp hU hW hPc hK hO hDc⟩ rfl rfl hl.1 rfl (lv_room (Nat.le_of_ble_eq_true rfl)) dX12_word_19 ⟨Nat.le_of_ble_eq_true rfl, Nat.le_of_ble_eq_true rfl⟩) hS (fun q _ h => hFc q h) hFc (fun r9 u t H1 locs ht hvm hw10 hB hz1 hk1 hS => ?_)
  have hP1 : va_P (dC, dI) vwCl [] H1 := zNilP
  have hD1 : va_D (va_A (ws_m_more cB cI cJ cZ cQ i4 r7) H.size) [] := zNilD
  obtain ⟨hP, hD⟩ := va_join (wr := []) (w1 := []) hP hD [] [] rfl rfl (by decide) (by decide) hk1 hFc hP1 hD1
  generalize H1 = H at hP hS ⊢
  have hP : va_P (dC, dI) vwCl [] H := hP
  have hD : va_D A [] := hD
  refine lv_iload hx hb dX12_word_22 (lv_at hl 5 rfl) ?_
  have hPc : va_P (dC, dI) vwCl (ws_m_more cB cI cJ cZ cQ i5 r9) H := hP.sub [] rfl
  have hDc := hD.sub (ws' := (ws_m_more cB cI cJ cZ cQ i5 r9)) [] (by decide) rfl
  have hFc := va_free (wc := (ws_m_more cB cI cJ cZ cQ i5 r9)) hD hS hA [] rfl
  refine va_calll (va_runS (As := [.long r9, .int i5]) (rest := []) ⟨hx, hb, hml, hown, hts⟩ (m_more l dC dI cB cI cJ cZ cQ i5 r9 H.size) (va_cwS 2 hts g_m_word_m_more_216 rfl rfl rfl (by decide +kernel) ⟨Nat.le_of_ble_eq_true rfl, Nat.le_of_ble_eq_true rfl⟩) ⟨zFB, fun U hU hW => zUp hU hW hPc hK hO hDc⟩ rfl rfl hl.1 rfl (lv_room (Nat.le_of_ble_eq_true rfl)) dX12_word_24 ⟨Nat.le_of_ble_eq_true rfl, Nat.le_of_ble_eq_true rfl⟩) hS (fun q _ h => hFc q h) hFc (fun r11 u t H1 locs ht hvm hw12 hB hz1 hk1 hS => ?_)
  have hP1 : va_P (dC, dI) vwCl [] H1 := zNilP
  have hD1 : va_D (va_A (ws_m_more cB cI cJ cZ cQ i5 r9) H.size) [] := zNilD
  obtain ⟨hP, hD⟩ := va_join (wr := []) (w1 := []) hP hD [] [] rfl rfl (by decide) (by decide) hk1 hFc hP1 hD1
  generalize H1 = H at hP hS ⊢
  have hP : va_P (dC, dI) vwCl [] H := hP
  have hD : va_D A [] := hD
  refine lv_iload hx hb dX12_word_27 (lv_at hl 6 rfl) ?_
  have hPc : va_P (dC, dI) vwCl (ws_m_more cB cI cJ cZ cQ i6 r11) H := hP.sub [] rfl
  have hDc := hD.sub (ws' := (ws_m_more cB cI cJ cZ cQ i6 r11)) [] (by decide) rfl
  have hFc := va_free (wc := (ws_m_more cB cI cJ cZ cQ i6 r11)) hD hS hA [] rfl
  refine va_calll (va_runS (As := [.long r11, .int i6]) (rest := []) ⟨hx, hb, hml, hown, hts⟩ (m_more l dC dI cB cI cJ cZ cQ i6 r11 H.size) (va_cwS 2 hts g_m_word_m_more_216 rfl rfl rfl (by decide +kernel) ⟨Nat.le_of_ble_eq_true rfl, Nat.le_of_ble_eq_true rfl⟩) ⟨zFB, fun U hU hW => zUp hU hW hPc hK hO hDc⟩ rfl rfl hl.1 rfl (lv_room (Nat.le_of_ble_eq_true rfl)) dX12_word_29 ⟨Nat.le_of_ble_eq_true rfl, Nat.le_of_ble_eq_true rfl⟩) hS (fun q _ h => hFc q h) hFc (fun r13 u t H1 locs ht hvm hw14 hB hz1 hk1 hS => ?_)
  have hP1 : va_P (dC, dI) vwCl [] H1 := zNilP
  have hD1 : va_D (va_A (ws_m_more cB cI cJ cZ cQ i6 r11) H.size) [] := zNilD
  obtain ⟨hP, hD⟩ := va_join (wr := []) (w1 := []) hP hD [] [] rfl rfl (by decide) (by decide) hk1 hFc hP1 hD1
  generalize H1 = H at hP hS ⊢
  have hP : va_P (dC, dI) vwCl [] H := hP
  have hD : va_D A [] := hD
  refine lv_iload hx hb dX12_word_32 (lv_at hl 7 rfl) ?_
  have hPc : va_P (dC, dI) vwCl (ws_m_more cB cI cJ cZ cQ i7 r13) H := hP.sub [] rfl
  have hDc := hD.sub (ws' := (ws_m_more cB cI cJ cZ cQ i7 r13)) [] (by decide) rfl
  have hFc := va_free (wc := (ws_m_more cB cI cJ cZ cQ i7 r13)) hD hS hA [] rfl
  refine va_calll (va_runS (As := [.long r13, .int i7]) (rest := []) ⟨hx, hb, hml, hown, hts⟩ (m_more l dC dI cB cI cJ cZ cQ i7 r13 H.size) (va_cwS 2 hts g_m_word_m_more_216 rfl rfl rfl (by decide +kernel) ⟨Nat.le_of_ble_eq_true rfl, Nat.le_of_ble_eq_true rfl⟩) ⟨zFB, fun U hU hW => zUp hU hW hPc hK hO hDc⟩ rfl rfl hl.1 rfl (lv_room (Nat.le_of_ble_eq_true rfl)) dX12_word_34 ⟨Nat.le_of_ble_eq_true rfl, Nat.le_of_ble_eq_true rfl⟩) hS (fun q _ h => hFc q h) hFc (fun r15 u t H1 locs ht hvm hw16 hB hz1 hk1 hS => ?_)
  have hP1 : va_P (dC, dI) vwCl [] H1 := zNilP
  have hD1 : va_D (va_A (ws_m_more cB cI cJ cZ cQ i7 r13) H.size) [] := zNilD
  obtain ⟨hP, hD⟩ := va_join (wr := []) (w1 := []) hP hD [] [] rfl rfl (by decide) (by decide) hk1 hFc hP1 hD1
  generalize H1 = H at hP hS ⊢
  have hP : va_P (dC, dI) vwCl [] H := hP
  have hD : va_D A [] := hD
  exact W.lret (v := r15) hx hb hr (fun t ht hW => ⟨⟨r15, (), rfl, trivial, trivial⟩, hS.F ht⟩) hS.2.2 dX12_word_37

def zs_m_at : List Cond := .code yX12_at cX12_at 2 (some .int) :: (([.fieldLink RX12 211 "LanternHouseModel" "size" "I"] : List Cond) ++ (wsX120 ++ []))
theorem gd_m_at : (zs_m_at).all goodWord = true := by decide +kernel
theorem in_m_at_12 : ∀ w ∈ wsX120, w ∈ zs_m_at := fun w h => List.mem_cons_of_mem _ (List.mem_append_right _ (List.mem_append_left _ h))
abbrev ws_m_at (cB cI cJ cZ cQ : ClassId) (aM : Nat) (fsaM : List Value) : va_W := [(aM, .inr (12, fsaM))]
set_option maxHeartbeats 4000000 in
set_option maxRecDepth 100000 in
theorem m_at (l : Launch) (dC : Nat → ClassId) (dI : Nat → Nat → Nat) (cB cI cJ cZ cQ : ClassId) (aM : Nat) (fsaM : List Value) (sz : Nat) (hlaM : fsaM.length = 87) (haM_4 : fsaM[4]? = some (.int 0)) : Met l yX12_at zs_m_at ({ frames := 0, cells := 0, slots := 0, locals := 0 } : Room) (zPc [.ref aM, .int 0] (dC, dI) (zTY cB cI cJ cZ cQ) (ws_m_at cB cI cJ cZ cQ aM fsaM) sz) (va_Qi (fun (zr : Int32) (_ : Unit) => zr = 0) (fun (_ : Unit) (t : State) => ∃ (gsaM : List Value), gsaM.length = 87 ∧ (∀ j : Nat, ¬ j ∈ ([] : List Nat) → gsaM[j]? = fsaM[j]?) ∧ va_P (dC, dI) vwCl [(aM, .inr (12, gsaM))] t.heap ∧ va_D (va_A (ws_m_at cB cI cJ cZ cQ aM fsaM) sz) [(aM, .inr (12, gsaM))]) (va_A (ws_m_at cB cI cJ cZ cQ aM fsaM) sz)) 0 0 (va_A (ws_m_at cB cI cJ cZ cQ aM fsaM) sz) := by
  refine Met.ofW (cc := cX12_at) (maxL := 2) (ret := (some .int)) (by decide) rfl ?_
  intro p e s m args below meth c s₁ B hml hv
  obtain ⟨rfl, hsz, hP0, hK, hO, hD0⟩ := hv
  have hx := B.exec
  have hb := B.bytes
  have hr := B.returns
  have hts := atoms_spec (ws := zs_m_at) B.pre
  have hown : s.vm.findClass RX12 = some m.cls := findClass_of_methodNamed B.named
  have hlocks := B.notSynchronized
  subst hsz
  have hD8 := hD0.self (sz := s.heap.size)
  generalize hAe : va_A (ws_m_at cB cI cJ cZ cQ aM fsaM) s.heap.size = A at hD8 ⊢
  have hA : ∀ q : Nat, s.heap.size ≤ q → A q := fun q h => by rw [← hAe]; exact Or.inr h
  have hS : va_S A s.heap s.heap [] := va_S.rf
  have hP : va_P (dC, dI) vwCl [(aM, .inr (12, fsaM))] s.heap := hP0
  have hD : va_D A [(aM, .inr (12, fsaM))] := hD8
  have hl := lv_entry ([.ref aM, .int 0]) (n := 2) (Nat.le_of_ble_eq_true rfl)
  rw [lg_entry_eq]
  generalize (lg_sl ([.ref aM, .int 0]) ++ List.replicate (2 - (lg_sl ([.ref aM, .int 0])).length) Slot.unset).toArray = ls at hl ⊢
  have hl : lv_has ls 2 [(0, .ref aM), (1, .int 0)] := hl
  clear hP0 hD8 hD0
  refine zH0 (fun H hP hS => ?_) hP hS
  refine lv_iload_n hx hb dX12_at_0 rfl (lv_at hl 1 rfl) ?_
  refine lv_aload_n hx hb dX12_at_1 rfl (lv_at hl 0 rfl) ?_
  refine va_get (D := (dC, dI)) (ci := 12) (v := .int 0) (C := RX12) (T := TX12) (N := 87) hx hb hts in_m_at_12 hown hK hP 0 rfl rfl 4 (by decide) (hts (.fieldLink RX12 211 "LanternHouseModel" "size" "I") (by decide +kernel)) (fun _ h9 => h9) haM_4 dX12_at_2 ?_
  refine lv_icmp_ge (tgt := 21) hx hb dX12_at_5 (by decide) (fun _ => ?_) (fun zc => absurd zc (by decide))
  refine lv_iconst (v := 0) hx hb dX12_at_21 (by decide) ?_
  have hP9 : va_P (dC, dI) vwCl [(aM, .inr (12, fsaM))] H := hP.sub [0] rfl
  have hD9 : va_D A [(aM, .inr (12, fsaM))] := hD.sub [0] (by decide) rfl
  exact W.iret (v := 0) hx hb hr (fun t ht hW => ⟨⟨0, (), rfl, rfl, ⟨fsaM, hlaM, (fun j hj => rfl), by rw [ht]; exact hP9, hD9⟩⟩, hS.F ht⟩) hS.2.2 dX12_at_22

def zs_m_token : List Cond := .code yX12_token cX12_token 6 none :: (([.fieldLink RX12 20 "LanternHouseModel" "tKind" "[I", .fieldLink RX12 220 "LanternHouseModel" "tokens" "I", .fieldLink RX12 24 "LanternHouseModel" "tPlace" "[I", .fieldLink RX12 27 "LanternHouseModel" "tValue" "[I", .fieldLink RX12 30 "LanternHouseModel" "tName" "[J"] : List Cond) ++ (wsX120 ++ []))
theorem gd_m_token : (zs_m_token).all goodWord = true := by decide +kernel
theorem in_m_token_12 : ∀ w ∈ wsX120, w ∈ zs_m_token := fun w h => List.mem_cons_of_mem _ (List.mem_append_right _ (List.mem_append_left _ h))
abbrev ws_m_token (cB cI cJ cZ cQ : ClassId) (aM qTk qTp qTv qTn : Nat) (fTk : Nat → Int32) (fTp : Nat → Int32) (fTv : Nat → Int32) (fTn : Nat → Int64) (fsaM : List Value) : va_W := [(aM, .inr (12, fsaM)), (qTk, .inl (cI, 603, .inl fTk)), (qTp, .inl (cI, 603, .inl fTp)), (qTv, .inl (cI, 603, .inl fTv)), (qTn, .inl (cJ, 603, .inr (.inl fTn)))]
set_option maxHeartbeats 4000000 in
set_option maxRecDepth 100000 in
theorem m_token (l : Launch) (dC : Nat → ClassId) (dI : Nat → Nat → Nat) (cB cI cJ cZ cQ : ClassId) (aM qTk qTp qTv qTn : Nat) (fTk : Nat → Int32) (fTp : Nat → Int32) (fTv : Nat → Int32) (fTn : Nat → Int64) (fsaM : List Value) (sz : Nat) (hlaM : fsaM.length = 87) (haM_5 : fsaM[5]? = some (.ref qTk)) (haM_6 : fsaM[6]? = some (.ref qTp)) (haM_7 : fsaM[7]? = some (.ref qTv)) (haM_8 : fsaM[8]? = some (.ref qTn)) (haM_10 : fsaM[10]? = some (.int 0)) : Met l yX12_token zs_m_token ({ frames := 0, cells := 0, slots := 0, locals := 0 } : Room) (zPc [.ref aM, .int 0, .int 0, .int 0, .long 0] (dC, dI) (zTY cB cI cJ cZ cQ) (ws_m_token cB cI cJ cZ cQ aM qTk qTp qTv qTn fTk fTp fTv fTn fsaM) sz) (va_Qv (fun (_ : Unit) => True) (fun (_ : Unit) (t : State) => ∃ (fTk2 : Nat → Int32), ∃ (gsaM : List Value), gsaM.length = 87 ∧ (∀ j : Nat, ¬ j ∈ ([10] : List Nat) → gsaM[j]? = fsaM[j]?) ∧ gsaM[10]? = some (.int 1) ∧ fTk2 (0 : Int32).toNatClampNeg = 0 ∧ va_P (dC, dI) vwCl [(aM, .inr (12, gsaM)), (qTk, .inl (cI, 603, .inl fTk2))] t.heap ∧ va_D (va_A (ws_m_token cB cI cJ cZ cQ aM qTk qTp qTv qTn fTk fTp fTv fTn fsaM) sz) [(aM, .inr (12, gsaM)), (qTk, .inl (cI, 603, .inl fTk2))]) (va_A (ws_m_token cB cI cJ cZ cQ aM qTk qTp qTv qTn fTk fTp fTv fTn fsaM) sz)) 0 0 (va_A (ws_m_token cB cI cJ cZ cQ aM qTk qTp qTv qTn fTk fTp fTv fTn fsaM) sz) := by
  refine Met.ofW (cc := cX12_token) (maxL := 6) (ret := none) (by decide) rfl ?_
  intro p e s m args below meth c s₁ B hml hv
  obtain ⟨rfl, hsz, hP0, hK, hO, hD0⟩ := hv
  have hx := B.exec
  have hb := B.bytes
  have hr := B.returns
  have hts := atoms_spec (ws := zs_m_token) B.pre
  have hown : s.vm.findClass RX12 = some m.cls := findClass_of_methodNamed B.named
  have hlocks := B.notSynchronized
  subst hsz
  have hD8 := hD0.self (sz := s.heap.size)
  generalize hAe : va_A (ws_m_token cB cI cJ cZ cQ aM qTk qTp qTv qTn fTk fTp fTv fTn fsaM) s.heap.size = A at hD8 ⊢
  have hA : ∀ q : Nat, s.heap.size ≤ q → A q := fun q h => by rw [← hAe]; exact Or.inr h
  have hS : va_S A s.heap s.heap [] := va_S.rf
  have hP : va_P (dC, dI) vwCl [(aM, .inr (12, fsaM)), (qTk, .inl (cI, 603, .inl fTk)), (qTp, .inl (cI, 603, .inl fTp)), (qTv, .inl (cI, 603, .inl fTv)), (qTn, .inl (cJ, 603, .inr (.inl fTn)))] s.heap := hP0
  have hD : va_D A [(aM, .inr (12, fsaM)), (qTk, .inl (cI, 603, .inl fTk)), (qTp, .inl (cI, 603, .inl fTp)), (qTv, .inl (cI, 603, .inl fTv)), (qTn, .inl (cJ, 603, .inr (.inl fTn)))] := hD8
  have hl := lv_entry ([.ref aM, .int 0, .int 0, .int 0, .long 0]) (n := 6) (Nat.le_of_ble_eq_true rfl)
  rw [lg_entry_eq]
  generalize (lg_sl ([.ref aM, .int 0, .int 0, .int 0, .long 0]) ++ List.replicate (6 - (lg_sl ([.ref aM, .int 0, .int 0, .int 0, .long 0])).length) Slot.unset).toArray = ls at hl ⊢
  have hl : lv_has ls 6 [(0, .ref aM), (1, .int 0), (2, .int 0), (3, .int 0), (4, .long 0)] := hl
  clear hP0 hD8 hD0
  refine zH0 (fun H hP hS => ?_) hP hS
  refine lv_aload_n hx hb dX12_token_0 rfl (lv_at hl 0 rfl) ?_
  refine va_get (D := (dC, dI)) (ci := 12) (v := .ref qTk) (C := RX12) (T := TX12) (N := 87) hx hb hts in_m_token_12 hown hK hP 0 rfl rfl 5 (by decide) (hts (.fieldLink RX12 20 "LanternHouseModel" "tKind" "[I") (by decide +kernel)) (fun _ h9 => h9) haM_5 dX12_token_1 ?_
  refine lv_aload_n hx hb dX12_token_4 rfl (lv_at hl 0 rfl) ?_
  refine va_get (D := (dC, dI)) (ci := 12) (v := .int 0) (C := RX12) (T := TX12) (N := 87) hx hb hts in_m_token_12 hown hK hP 0 rfl rfl 10 (by decide) (hts (.fieldLink RX12 220 "LanternHouseModel" "tokens" "I") (by decide +kernel)) (fun _ h9 => h9) haM_10 dX12_token_5 ?_
  refine lv_iload_n hx hb dX12_token_8 rfl (lv_at hl 1 rfl) ?_
  refine z_iast hx hb hK hP hD hS 1 1 rfl rfl (show ¬ ((0 : Int32) < 0 ∨ 603 ≤ (0 : Int32).toNatClampNeg) from by decide) dX12_token_9 (fun H locs g1 hg1 hP hD hS => ?_)
  have hP : va_P (dC, dI) vwCl [(aM, .inr (12, fsaM)), (qTk, .inl (cI, 603, .inl g1)), (qTp, .inl (cI, 603, .inl fTp)), (qTv, .inl (cI, 603, .inl fTv)), (qTn, .inl (cJ, 603, .inr (.inl fTn)))] H := hP
  have hD : va_D A [(aM, .inr (12, fsaM)), (qTk, .inl (cI, 603, .inl g1)), (qTp, .inl (cI, 603, .inl fTp)), (qTv, .inl (cI, 603, .inl fTv)), (qTn, .inl (cJ, 603, .inr (.inl fTn)))] := hD
  refine lv_aload_n hx hb dX12_token_10 rfl (lv_at hl 0 rfl) ?_
  refine va_get (D := (dC, dI)) (ci := 12) (v := .ref qTp) (C := RX12) (T := TX12) (N := 87) hx hb hts in_m_token_12 hown hK hP 0 rfl rfl 6 (by decide) (hts (.fieldLink RX12 24 "LanternHouseModel" "tPlace" "[I") (by decide +kernel)) (fun _ h9 => h9) haM_6 dX12_token_11 ?_
  refine lv_aload_n hx hb dX12_token_14 rfl (lv_at hl 0 rfl) ?_
  refine va_get (D := (dC, dI)) (ci := 12) (v := .int 0) (C := RX12) (T := TX12) (N := 87) hx hb hts in_m_token_12 hown hK hP 0 rfl rfl 10 (by decide) (hts (.fieldLink RX12 220 "LanternHouseModel" "tokens" "I") (by decide +kernel)) (fun _ h9 => h9) haM_10 dX12_token_15 ?_
  refine lv_iload_n hx hb dX12_token_18 rfl (lv_at hl 2 rfl) ?_
  refine z_iast hx hb hK hP hD hS 2 1 rfl rfl (show ¬ ((0 : Int32) < 0 ∨ 603 ≤ (0 : Int32).toNatClampNeg) from by decide) dX12_token_19 (fun H locs g2 hg2 hP hD hS => ?_)
  have hP : va_P (dC, dI) vwCl [(aM, .inr (12, fsaM)), (qTk, .inl (cI, 603, .inl g1)), (qTp, .inl (cI, 603, .inl g2)), (qTv, .inl (cI, 603, .inl fTv)), (qTn, .inl (cJ, 603, .inr (.inl fTn)))] H := hP
  have hD : va_D A [(aM, .inr (12, fsaM)), (qTk, .inl (cI, 603, .inl g1)), (qTp, .inl (cI, 603, .inl g2)), (qTv, .inl (cI, 603, .inl fTv)), (qTn, .inl (cJ, 603, .inr (.inl fTn)))] := hD
  refine lv_aload_n hx hb dX12_token_20 rfl (lv_at hl 0 rfl) ?_
  refine va_get (D := (dC, dI)) (ci := 12) (v := .ref qTv) (C := RX12) (T := TX12) (N := 87) hx hb hts in_m_token_12 hown hK hP 0 rfl rfl 7 (by decide) (hts (.fieldLink RX12 27 "LanternHouseModel" "tValue" "[I") (by decide +kernel)) (fun _ h9 => h9) haM_7 dX12_token_21 ?_
  refine lv_aload_n hx hb dX12_token_24 rfl (lv_at hl 0 rfl) ?_
  refine va_get (D := (dC, dI)) (ci := 12) (v := .int 0) (C := RX12) (T := TX12) (N := 87) hx hb hts in_m_token_12 hown hK hP 0 rfl rfl 10 (by decide) (hts (.fieldLink RX12 220 "LanternHouseModel" "tokens" "I") (by decide +kernel)) (fun _ h9 => h9) haM_10 dX12_token_25 ?_
  refine lv_iload_n hx hb dX12_token_28 rfl (lv_at hl 3 rfl) ?_
  refine z_iast hx hb hK hP hD hS 3 1 rfl rfl (show ¬ ((0 : Int32) < 0 ∨ 603 ≤ (0 : Int32).toNatClampNeg) from by decide) dX12_token_29 (fun H locs g3 hg3 hP hD hS => ?_)
  have hP : va_P (dC, dI) vwCl [(aM, .inr (12, fsaM)), (qTk, .inl (cI, 603, .inl g1)), (qTp, .inl (cI, 603, .inl g2)), (qTv, .inl (cI, 603, .inl g3)), (qTn, .inl (cJ, 603, .inr (.inl fTn)))] H := hP
  have hD : va_D A [(aM, .inr (12, fsaM)), (qTk, .inl (cI, 603, .inl g1)), (qTp, .inl (cI, 603, .inl g2)), (qTv, .inl (cI, 603, .inl g3)), (qTn, .inl (cJ, 603, .inr (.inl fTn)))] := hD
  refine lv_aload_n hx hb dX12_token_30 rfl (lv_at hl 0 rfl) ?_
  refine va_get (D := (dC, dI)) (ci := 12) (v := .ref qTn) (C := RX12) (T := TX12) (N := 87) hx hb hts in_m_token_12 hown hK hP 0 rfl rfl 8 (by decide) (hts (.fieldLink RX12 30 "LanternHouseModel" "tName" "[J") (by decide +kernel)) (fun _ h9 => h9) haM_8 dX12_token_31 ?_
  refine lv_aload_n hx hb dX12_token_34 rfl (lv_at hl 0 rfl) ?_
  refine va_get (D := (dC, dI)) (ci := 12) (v := .int 0) (C := RX12) (T := TX12) (N := 87) hx hb hts in_m_token_12 hown hK hP 0 rfl rfl 10 (by decide) (hts (.fieldLink RX12 220 "LanternHouseModel" "tokens" "I") (by decide +kernel)) (fun _ h9 => h9) haM_10 dX12_token_35 ?_
  refine lv_lload hx hb dX12_token_38 (lv_at hl 4 rfl) ?_
  refine z_last hx hb hK hP hD hS 4 2 rfl rfl (show ¬ ((0 : Int32) < 0 ∨ 603 ≤ (0 : Int32).toNatClampNeg) from by decide) dX12_token_40 (fun H locs g4 hg4 hP hD hS => ?_)
  have hP : va_P (dC, dI) vwCl [(aM, .inr (12, fsaM)), (qTk, .inl (cI, 603, .inl g1)), (qTp, .inl (cI, 603, .inl g2)), (qTv, .inl (cI, 603, .inl g3)), (qTn, .inl (cJ, 603, .inr (.inl g4)))] H := hP
  have hD : va_D A [(aM, .inr (12, fsaM)), (qTk, .inl (cI, 603, .inl g1)), (qTp, .inl (cI, 603, .inl g2)), (qTv, .inl (cI, 603, .inl g3)), (qTn, .inl (cJ, 603, .inr (.inl g4)))] := hD
  refine lv_aload_n hx hb dX12_token_41 rfl (lv_at hl 0 rfl) ?_
  refine lv_dup hx hb dX12_token_42 rfl ?_
  refine va_get (D := (dC, dI)) (ci := 12) (v := .int 0) (C := RX12) (T := TX12) (N := 87) hx hb hts in_m_token_12 hown hK hP 0 rfl rfl 10 (by decide) (hts (.fieldLink RX12 220 "LanternHouseModel" "tokens" "I") (by decide +kernel)) (fun _ h9 => h9) haM_10 dX12_token_43 ?_
  refine lv_iconst (v := 1) hx hb dX12_token_46 (by decide) ?_
  refine lv_iadd hx hb dX12_token_47 ?_
  refine lv_topi (fun x5 ex5 => ?_)
  obtain rfl : x5 = 1 := ex5.trans (by decide)
  refine va_put (D := (dC, dI)) (ci := 12) (v := .int 1) (ty := .int) (C := RX12) (T := TX12) (N := 87) hx hb hts in_m_token_12 tyX12 tyX12_ok nmX12 hown hK hP hD hS 0 rfl rfl 10 (by decide) (hts (.fieldLink RX12 220 "LanternHouseModel" "tokens" "I") (by decide +kernel)) (fun _ h9 => h9) rfl (by decide +kernel) rfl rfl (by rw [hlaM]; decide) dX12_token_48 (fun H locs hP hD hS => ?_)
  have hP : va_P (dC, dI) vwCl [(aM, .inr (12, (List.set fsaM 10 (.int 1)))), (qTk, .inl (cI, 603, .inl g1)), (qTp, .inl (cI, 603, .inl g2)), (qTv, .inl (cI, 603, .inl g3)), (qTn, .inl (cJ, 603, .inr (.inl g4)))] H := hP
  have hD : va_D A [(aM, .inr (12, (List.set fsaM 10 (.int 1)))), (qTk, .inl (cI, 603, .inl g1)), (qTp, .inl (cI, 603, .inl g2)), (qTv, .inl (cI, 603, .inl g3)), (qTn, .inl (cJ, 603, .inr (.inl g4)))] := hD
  have hP9 : va_P (dC, dI) vwCl [(aM, .inr (12, (List.set fsaM 10 (.int 1)))), (qTk, .inl (cI, 603, .inl g1))] H := hP.sub [0, 1] rfl
  have hD9 : va_D A [(aM, .inr (12, (List.set fsaM 10 (.int 1)))), (qTk, .inl (cI, 603, .inl g1))] := hD.sub [0, 1] (by decide) rfl
  exact W.vret hx hb hr (fun t ht hW => ⟨⟨(), rfl, trivial, ⟨g1, (List.set fsaM 10 (.int 1)), (zset_len hlaM), (fun j hj => ((zfr (by decide) hj).trans rfl)), (zset_eq (by rw [hlaM]; decide)), hg1, by rw [ht]; exact hP9, hD9⟩⟩, hS.F ht⟩) hS.2.2 dX12_token_51

def zs_m_cut : List Cond := .code yX12_cut cX12_cut 8 none :: (([.fieldLink RX12 220 "LanternHouseModel" "tokens" "I", .fieldLink RX12 211 "LanternHouseModel" "size" "I", .methodLink RX12 223 yX12_at, .instanceMethod yX12_at, .selects RX12 yX12_at yX12_at, .initialized RX12, .methodLink RX12 227 yX12_token, .instanceMethod yX12_token, .selects RX12 yX12_token yX12_token] : List Cond) ++ (zs_m_at ++ (zs_m_token ++ (wsX120 ++ []))))
theorem gd_m_cut : (zs_m_cut).all goodWord = true := by decide +kernel
theorem in_m_cut_12 : ∀ w ∈ wsX120, w ∈ zs_m_cut := fun w h => List.mem_cons_of_mem _ (List.mem_append_right _ (List.mem_append_right _ (List.mem_append_right _ (List.mem_append_left _ h))))
theorem g_m_cut_m_at_223 : GoodIn zs_m_cut (wsV RX12 223 RX12 yX12_at zs_m_at) := goodIn_app (goodIn_of _ (by decide +kernel)) (goodIn_sub (fun w h => List.mem_cons_of_mem _ (List.mem_append_right _ (List.mem_append_left _ h))) gd_m_at)
theorem g_m_cut_m_token_227 : GoodIn zs_m_cut (wsV RX12 227 RX12 yX12_token zs_m_token) := goodIn_app (goodIn_of _ (by decide +kernel)) (goodIn_sub (fun w h => List.mem_cons_of_mem _ (List.mem_append_right _ (List.mem_append_right _ (List.mem_append_left _ h)))) gd_m_token)
abbrev ws_m_cut (cB cI cJ cZ cQ : ClassId) (aM qTk qTp qTv qTn : Nat) (fTk : Nat → Int32) (fTp : Nat → Int32) (fTv : Nat → Int32) (fTn : Nat → Int64) (fsaM : List Value) : va_W := [(aM, .inr (12, fsaM)), (qTk, .inl (cI, 603, .inl fTk)), (qTp, .inl (cI, 603, .inl fTp)), (qTv, .inl (cI, 603, .inl fTv)), (qTn, .inl (cJ, 603, .inr (.inl fTn)))]
set_option maxHeartbeats 4000000 in
set_option maxRecDepth 100000 in
theorem m_cut (l : Launch) (dC : Nat → ClassId) (dI : Nat → Nat → Nat) (cB cI cJ cZ cQ : ClassId) (aM qTk qTp qTv qTn : Nat) (fTk : Nat → Int32) (fTp : Nat → Int32) (fTv : Nat → Int32) (fTn : Nat → Int64) (fsaM : List Value) (sz : Nat) (hlaM : fsaM.length = 87) (haM_4 : fsaM[4]? = some (.int 0)) (haM_5 : fsaM[5]? = some (.ref qTk)) (haM_6 : fsaM[6]? = some (.ref qTp)) (haM_7 : fsaM[7]? = some (.ref qTv)) (haM_8 : fsaM[8]? = some (.ref qTn)) : Met l yX12_cut zs_m_cut ({ frames := 1, cells := 0, slots := 0, locals := 25 } : Room) (zPc [.ref aM] (dC, dI) (zTY cB cI cJ cZ cQ) (ws_m_cut cB cI cJ cZ cQ aM qTk qTp qTv qTn fTk fTp fTv fTn fsaM) sz) (va_Qv (fun (_ : Unit) => True) (fun (_ : Unit) (t : State) => ∃ (fTk2 : Nat → Int32), ∃ (gsaM : List Value), gsaM.length = 87 ∧ (∀ j : Nat, ¬ j ∈ ([10] : List Nat) → gsaM[j]? = fsaM[j]?) ∧ fTk2 (0 : Int32).toNatClampNeg = 0 ∧ va_P (dC, dI) vwCl [(aM, .inr (12, gsaM)), (qTk, .inl (cI, 603, .inl fTk2))] t.heap ∧ va_D (va_A (ws_m_cut cB cI cJ cZ cQ aM qTk qTp qTv qTn fTk fTp fTv fTn fsaM) sz) [(aM, .inr (12, gsaM)), (qTk, .inl (cI, 603, .inl fTk2))]) (va_A (ws_m_cut cB cI cJ cZ cQ aM qTk qTp qTv qTn fTk fTp fTv fTn fsaM) sz)) 0 0 (va_A (ws_m_cut cB cI cJ cZ cQ aM qTk qTp qTv qTn fTk fTp fTv fTn fsaM) sz) := by
  refine Met.ofW (cc := cX12_cut) (maxL := 8) (ret := none) (by decide) rfl ?_
  intro p e s m args below meth c s₁ B hml hv
  obtain ⟨rfl, hsz, hP0, hK, hO, hD0⟩ := hv
  have hx := B.exec
  have hb := B.bytes
  have hr := B.returns
  have hts := atoms_spec (ws := zs_m_cut) B.pre
  have hown : s.vm.findClass RX12 = some m.cls := findClass_of_methodNamed B.named
  have hlocks := B.notSynchronized
  subst hsz
  have hD8 := hD0.self (sz := s.heap.size)
  generalize hAe : va_A (ws_m_cut cB cI cJ cZ cQ aM qTk qTp qTv qTn fTk fTp fTv fTn fsaM) s.heap.size = A at hD8 ⊢
  have hA : ∀ q : Nat, s.heap.size ≤ q → A q := fun q h => by rw [← hAe]; exact Or.inr h
  have hS : va_S A s.heap s.heap [] := va_S.rf
  have hP : va_P (dC, dI) vwCl [(aM, .inr (12, fsaM)), (qTk, .inl (cI, 603, .inl fTk)), (qTp, .inl (cI, 603, .inl fTp)), (qTv, .inl (cI, 603, .inl fTv)), (qTn, .inl (cJ, 603, .inr (.inl fTn)))] s.heap := hP0
  have hD : va_D A [(aM, .inr (12, fsaM)), (qTk, .inl (cI, 603, .inl fTk)), (qTp, .inl (cI, 603, .inl fTp)), (qTv, .inl (cI, 603, .inl fTv)), (qTn, .inl (cJ, 603, .inr (.inl fTn)))] := hD8
  have hl := lv_entry ([.ref aM]) (n := 8) (Nat.le_of_ble_eq_true rfl)
  rw [lg_entry_eq]
  generalize (lg_sl ([.ref aM]) ++ List.replicate (8 - (lg_sl ([.ref aM])).length) Slot.unset).toArray = ls at hl ⊢
  have hl : lv_has ls 8 [(0, .ref aM)] := hl
  clear hP0 hD8 hD0
  refine zH0 (fun H hP hS => ?_) hP hS
  refine lv_aload_n hx hb dX12_cut_0 rfl (lv_at hl 0 rfl) ?_
  refine lv_iconst (v := 0) hx hb dX12_cut_1 (by decide) ?_
  refine va_put (D := (dC, dI)) (ci := 12) (v := .int 0) (ty := .int) (C := RX12) (T := TX12) (N := 87) hx hb hts in_m_cut_12 tyX12 tyX12_ok nmX12 hown hK hP hD hS 0 rfl rfl 10 (by decide) (hts (.fieldLink RX12 220 "LanternHouseModel" "tokens" "I") (by decide +kernel)) (fun _ h9 => h9) rfl (by decide +kernel) rfl rfl (by rw [hlaM]; decide) dX12_cut_2 (fun H locs hP hD hS => ?_)
  have hP : va_P (dC, dI) vwCl [(aM, .inr (12, (List.set fsaM 10 (.int 0)))), (qTk, .inl (cI, 603, .inl fTk)), (qTp, .inl (cI, 603, .inl fTp)), (qTv, .inl (cI, 603, .inl fTv)), (qTn, .inl (cJ, 603, .inr (.inl fTn)))] H := hP
  have hD : va_D A [(aM, .inr (12, (List.set fsaM 10 (.int 0)))), (qTk, .inl (cI, 603, .inl fTk)), (qTp, .inl (cI, 603, .inl fTp)), (qTv, .inl (cI, 603, .inl fTv)), (qTn, .inl (cJ, 603, .inr (.inl fTn)))] := hD
  refine lv_iconst (v := 0) hx hb dX12_cut_5 (by decide) ?_
  refine lv_istore_n (lv' := [(1, .int 0), (0, .ref aM)]) hx hb dX12_cut_6 rfl hl (by decide) rfl (fun ls hl => ?_)
  refine lv_aload_n hx hb dX12_cut_7 rfl (lv_at hl 1 rfl) ?_
  refine va_get (D := (dC, dI)) (ci := 12) (v := .int 0) (C := RX12) (T := TX12) (N := 87) hx hb hts in_m_cut_12 hown hK hP 0 rfl rfl 10 (by decide) (hts (.fieldLink RX12 220 "LanternHouseModel" "tokens" "I") (by decide +kernel)) (fun _ h9 => h9) (zset_eq (by rw [hlaM]; decide)) dX12_cut_8 ?_
  refine lv_sipush (v := 600) hx hb dX12_cut_11 (by decide) ?_
  refine lv_icmp_gt (tgt := 294) hx hb dX12_cut_14 (by decide) (fun zc => absurd zc (by decide)) (fun _ => ?_)
  refine lv_aload_n hx hb dX12_cut_17 rfl (lv_at hl 1 rfl) ?_
  refine lv_iload_n hx hb dX12_cut_18 rfl (lv_at hl 0 rfl) ?_
  have hPc : va_P (dC, dI) vwCl (ws_m_at cB cI cJ cZ cQ aM (List.set fsaM 10 (.int 0))) H := hP.sub [0] rfl
  have hDc := hD.sub (ws' := (ws_m_at cB cI cJ cZ cQ aM (List.set fsaM 10 (.int 0)))) [0] (by decide) rfl
  have hFc := va_free (wc := (ws_m_at cB cI cJ cZ cQ aM (List.set fsaM 10 (.int 0)))) hD hS hA [0] rfl
  refine va_calli (va_runV (As := [.int 0]) (rest := []) ⟨hx, hb, hml, hown, hts⟩ (m_at l dC dI cB cI cJ cZ cQ aM (List.set fsaM 10 (.int 0)) H.size (zset_len hlaM) (zset_ne (by decide) haM_4)) (cwV 1 hts g_m_cut_m_at_223 rfl rfl rfl (by decide +kernel) ⟨Nat.le_of_ble_eq_true rfl, Nat.le_of_ble_eq_true rfl⟩) ⟨zFB, va_recv hK hP (ci := 12) (q0 := 0) rfl rfl, fun U hU hW => zUp hU hW hPc hK hO hDc⟩ rfl rfl hl.1 rfl (lv_room (Nat.le_of_ble_eq_true rfl)) dX12_cut_19 ⟨Nat.le_of_ble_eq_true rfl, Nat.le_of_ble_eq_true rfl⟩) hS (fun q _ h => hFc q h) hFc (fun r1 u t H1 locs ht hvm hw2 hB hz1 hk1 hS => ?_)
  obtain ⟨gs3, hgl4, hgf5, hP1, hD1⟩ := hB
  rw [ht] at hP1
  obtain ⟨hP, hD⟩ := va_join (wr := [(qTk, .inl (cI, 603, .inl fTk)), (qTp, .inl (cI, 603, .inl fTp)), (qTv, .inl (cI, 603, .inl fTv)), (qTn, .inl (cJ, 603, .inr (.inl fTn)))]) (w1 := [(aM, .inr (12, gs3))]) hP hD [0] [1, 2, 3, 4] rfl rfl (by decide) (by decide) hk1 hFc hP1 hD1
  generalize H1 = H at hP hS ⊢
  have hP : va_P (dC, dI) vwCl [(qTk, .inl (cI, 603, .inl fTk)), (qTp, .inl (cI, 603, .inl fTp)), (qTv, .inl (cI, 603, .inl fTv)), (qTn, .inl (cJ, 603, .inr (.inl fTn))), (aM, .inr (12, gs3))] H := hP
  have hD : va_D A [(qTk, .inl (cI, 603, .inl fTk)), (qTp, .inl (cI, 603, .inl fTp)), (qTv, .inl (cI, 603, .inl fTv)), (qTn, .inl (cJ, 603, .inr (.inl fTn))), (aM, .inr (12, gs3))] := hD
  obtain rfl : r1 = 0 := hw2
  refine lv_istore_n (lv' := [(2, .int 0), (1, .int 0), (0, .ref aM)]) hx hb dX12_cut_22 rfl hl (by decide) rfl (fun ls hl => ?_)
  refine lv_iload_n hx hb dX12_cut_23 rfl (lv_at hl 1 rfl) ?_
  refine lv_aload_n hx hb dX12_cut_24 rfl (lv_at hl 2 rfl) ?_
  refine va_get (D := (dC, dI)) (ci := 12) (v := .int 0) (C := RX12) (T := TX12) (N := 87) hx hb hts in_m_cut_12 hown hK hP 4 rfl rfl 4 (by decide) (hts (.fieldLink RX12 211 "LanternHouseModel" "size" "I") (by decide +kernel)) (fun _ h9 => h9) ((hgf5 4 (by decide)).trans (zset_ne (by decide) haM_4)) dX12_cut_25 ?_
  refine lv_icmp_lt (tgt := 43) hx hb dX12_cut_28 (by decide) (fun zc => absurd zc (by decide)) (fun _ => ?_)
  refine lv_aload_n hx hb dX12_cut_31 rfl (lv_at hl 2 rfl) ?_
  refine lv_iconst (v := 0) hx hb dX12_cut_32 (by decide) ?_
  refine lv_aload_n hx hb dX12_cut_33 rfl (lv_at hl 2 rfl) ?_
  refine va_get (D := (dC, dI)) (ci := 12) (v := .int 0) (C := RX12) (T := TX12) (N := 87) hx hb hts in_m_cut_12 hown hK hP 4 rfl rfl 4 (by decide) (hts (.fieldLink RX12 211 "LanternHouseModel" "size" "I") (by decide +kernel)) (fun _ h9 => h9) ((hgf5 4 (by decide)).trans (zset_ne (by decide) haM_4)) dX12_cut_34 ?_
  refine lv_iconst (v := 0) hx hb dX12_cut_37 (by decide) ?_
  refine lv_lconst (v := 0) hx hb dX12_cut_38 (by decide) ?_
  have hPc : va_P (dC, dI) vwCl (ws_m_token cB cI cJ cZ cQ aM qTk qTp qTv qTn fTk fTp fTv fTn gs3) H := hP.sub [4, 0, 1, 2, 3] rfl
  have hDc := hD.sub (ws' := (ws_m_token cB cI cJ cZ cQ aM qTk qTp qTv qTn fTk fTp fTv fTn gs3)) [4, 0, 1, 2, 3] (by decide) rfl
  have hFc := va_free (wc := (ws_m_token cB cI cJ cZ cQ aM qTk qTp qTv qTn fTk fTp fTv fTn gs3)) hD hS hA [4, 0, 1, 2, 3] rfl
  refine va_callv (va_runV (As := [.int 0, .int 0, .int 0, .long 0]) (rest := []) ⟨hx, hb, hml, hown, hts⟩ (m_token l dC dI cB cI cJ cZ cQ aM qTk qTp qTv qTn fTk fTp fTv fTn gs3 H.size hgl4 ((hgf5 5 (by decide)).trans (zset_ne (by decide) haM_5)) ((hgf5 6 (by decide)).trans (zset_ne (by decide) haM_6)) ((hgf5 7 (by decide)).trans (zset_ne (by decide) haM_7)) ((hgf5 8 (by decide)).trans (zset_ne (by decide) haM_8)) ((hgf5 10 (by decide)).trans (zset_eq (by rw [hlaM]; decide)))) (cwV 4 hts g_m_cut_m_token_227 rfl rfl rfl (by decide +kernel) ⟨Nat.le_of_ble_eq_true rfl, Nat.le_of_ble_eq_true rfl⟩) ⟨zFB, va_recv hK hP (ci := 12) (q0 := 4) rfl rfl, fun U hU hW => zUp hU hW hPc hK hO hDc⟩ rfl rfl hl.1 rfl (lv_room (Nat.le_of_ble_eq_true rfl)) dX12_cut_39 ⟨Nat.le_of_ble_eq_true rfl, Nat.le_of_ble_eq_true rfl⟩) hS (fun q _ h => hFc q h) hFc (fun u t H1 locs ht hvm hw7 hB hz1 hk1 hS => ?_)
  obtain ⟨fTk28, gs9, hgl10, hgf11, hgk12, hk13, hP1, hD1⟩ := hB
  rw [ht] at hP1
  obtain ⟨hP, hD⟩ := va_join (wr := []) (w1 := [(aM, .inr (12, gs9)), (qTk, .inl (cI, 603, .inl fTk28))]) hP hD [4, 0, 1, 2, 3] [] rfl rfl (by decide) (by decide) hk1 hFc hP1 hD1
  generalize H1 = H at hP hS ⊢
  have hP : va_P (dC, dI) vwCl [(aM, .inr (12, gs9)), (qTk, .inl (cI, 603, .inl fTk28))] H := hP
  have hD : va_D A [(aM, .inr (12, gs9)), (qTk, .inl (cI, 603, .inl fTk28))] := hD
  have hP9 : va_P (dC, dI) vwCl [(aM, .inr (12, gs9)), (qTk, .inl (cI, 603, .inl fTk28))] H := hP.sub [0, 1] rfl
  have hD9 : va_D A [(aM, .inr (12, gs9)), (qTk, .inl (cI, 603, .inl fTk28))] := hD.sub [0, 1] (by decide) rfl
  exact W.vret hx hb hr (fun t ht hW => ⟨⟨(), rfl, trivial, ⟨fTk28, gs9, hgl10, (fun j hj => ((zfs hgf11 (by decide) hj).trans ((zfs hgf5 (by decide) hj).trans ((zfr (by decide) hj).trans rfl)))), hk13, by rw [ht]; exact hP9, hD9⟩⟩, hS.F ht⟩) hS.2.2 dX12_cut_42

def zs_m_is : List Cond := .code yX12_is cX12_is 2 (some .boolean) :: (([.fieldLink RX12 242 "LanternHouseModel" "fault" "I", .fieldLink RX12 20 "LanternHouseModel" "tKind" "[I", .fieldLink RX12 245 "LanternHouseModel" "t" "I"] : List Cond) ++ (wsX120 ++ []))
theorem gd_m_is : (zs_m_is).all goodWord = true := by decide +kernel
theorem in_m_is_12 : ∀ w ∈ wsX120, w ∈ zs_m_is := fun w h => List.mem_cons_of_mem _ (List.mem_append_right _ (List.mem_append_left _ h))
abbrev ws_m_is (cB cI cJ cZ cQ : ClassId) (aM qTk : Nat) (fTk : Nat → Int32) (fsaM : List Value) : va_W := [(aM, .inr (12, fsaM)), (qTk, .inl (cI, 603, .inl fTk))]
set_option maxHeartbeats 4000000 in
set_option maxRecDepth 100000 in
theorem m_is (l : Launch) (dC : Nat → ClassId) (dI : Nat → Nat → Nat) (cB cI cJ cZ cQ : ClassId) (aM qTk : Nat) (fTk : Nat → Int32) (fsaM : List Value) (sz : Nat) (hTk0 : fTk (0 : Int32).toNatClampNeg = 0) (hlaM : fsaM.length = 87) (haM_5 : fsaM[5]? = some (.ref qTk)) (haM_11 : fsaM[11]? = some (.int 0)) (haM_13 : fsaM[13]? = some (.int 0)) : Met l yX12_is zs_m_is ({ frames := 0, cells := 0, slots := 0, locals := 0 } : Room) (zPc [.ref aM, .int 0] (dC, dI) (zTY cB cI cJ cZ cQ) (ws_m_is cB cI cJ cZ cQ aM qTk fTk fsaM) sz) (va_Qi (fun (zr : Int32) (_ : Unit) => zr = 1) (fun (_ : Unit) (t : State) => ∃ (gsaM : List Value), gsaM.length = 87 ∧ (∀ j : Nat, ¬ j ∈ ([] : List Nat) → gsaM[j]? = fsaM[j]?) ∧ va_P (dC, dI) vwCl [(aM, .inr (12, gsaM))] t.heap ∧ va_D (va_A (ws_m_is cB cI cJ cZ cQ aM qTk fTk fsaM) sz) [(aM, .inr (12, gsaM))]) (va_A (ws_m_is cB cI cJ cZ cQ aM qTk fTk fsaM) sz)) 0 0 (va_A (ws_m_is cB cI cJ cZ cQ aM qTk fTk fsaM) sz) := by
  refine Met.ofW (cc := cX12_is) (maxL := 2) (ret := (some .boolean)) (by decide) rfl ?_
  intro p e s m args below meth c s₁ B hml hv
  obtain ⟨rfl, hsz, hP0, hK, hO, hD0⟩ := hv
  have hx := B.exec
  have hb := B.bytes
  have hr := B.returns
  have hts := atoms_spec (ws := zs_m_is) B.pre
  have hown : s.vm.findClass RX12 = some m.cls := findClass_of_methodNamed B.named
  have hlocks := B.notSynchronized
  subst hsz
  have hD8 := hD0.self (sz := s.heap.size)
  generalize hAe : va_A (ws_m_is cB cI cJ cZ cQ aM qTk fTk fsaM) s.heap.size = A at hD8 ⊢
  have hA : ∀ q : Nat, s.heap.size ≤ q → A q := fun q h => by rw [← hAe]; exact Or.inr h
  have hS : va_S A s.heap s.heap [] := va_S.rf
  have hP : va_P (dC, dI) vwCl [(aM, .inr (12, fsaM)), (qTk, .inl (cI, 603, .inl fTk))] s.heap := hP0
  have hD : va_D A [(aM, .inr (12, fsaM)), (qTk, .inl (cI, 603, .inl fTk))] := hD8
  have hl := lv_entry ([.ref aM, .int 0]) (n := 2) (Nat.le_of_ble_eq_true rfl)
  rw [lg_entry_eq]
  generalize (lg_sl ([.ref aM, .int 0]) ++ List.replicate (2 - (lg_sl ([.ref aM, .int 0])).length) Slot.unset).toArray = ls at hl ⊢
  have hl : lv_has ls 2 [(0, .ref aM), (1, .int 0)] := hl
  clear hP0 hD8 hD0
  refine zH0 (fun H hP hS => ?_) hP hS
  refine lv_aload_n hx hb dX12_is_0 rfl (lv_at hl 0 rfl) ?_
  refine va_get (D := (dC, dI)) (ci := 12) (v := .int 0) (C := RX12) (T := TX12) (N := 87) hx hb hts in_m_is_12 hown hK hP 0 rfl rfl 13 (by decide) (hts (.fieldLink RX12 242 "LanternHouseModel" "fault" "I") (by decide +kernel)) (fun _ h9 => h9) haM_13 dX12_is_1 ?_
  refine lv_if_ne (tgt := 24) hx hb dX12_is_4 (by decide) (fun zc => absurd zc (by decide)) (fun _ => ?_)
  refine lv_aload_n hx hb dX12_is_7 rfl (lv_at hl 0 rfl) ?_
  refine va_get (D := (dC, dI)) (ci := 12) (v := .ref qTk) (C := RX12) (T := TX12) (N := 87) hx hb hts in_m_is_12 hown hK hP 0 rfl rfl 5 (by decide) (hts (.fieldLink RX12 20 "LanternHouseModel" "tKind" "[I") (by decide +kernel)) (fun _ h9 => h9) haM_5 dX12_is_8 ?_
  refine lv_aload_n hx hb dX12_is_11 rfl (lv_at hl 0 rfl) ?_
  refine va_get (D := (dC, dI)) (ci := 12) (v := .int 0) (C := RX12) (T := TX12) (N := 87) hx hb hts in_m_is_12 hown hK hP 0 rfl rfl 11 (by decide) (hts (.fieldLink RX12 245 "LanternHouseModel" "t" "I") (by decide +kernel)) (fun _ h9 => h9) haM_11 dX12_is_12 ?_
  refine z_iald hx hb hK hP 1 1 rfl rfl (show ¬ ((0 : Int32) < 0 ∨ 603 ≤ (0 : Int32).toNatClampNeg) from by decide) (v := 0) hTk0 dX12_is_15 ?_
  refine lv_iload_n hx hb dX12_is_16 rfl (lv_at hl 1 rfl) ?_
  refine lv_icmp_ne (tgt := 24) hx hb dX12_is_17 (by decide) (fun zc => absurd zc (by decide)) (fun _ => ?_)
  refine lv_iconst (v := 1) hx hb dX12_is_20 (by decide) ?_
  refine lv_goto (tgt := 25) hx hb dX12_is_21 (by decide) ?_
  have hP9 : va_P (dC, dI) vwCl [(aM, .inr (12, fsaM))] H := hP.sub [0] rfl
  have hD9 : va_D A [(aM, .inr (12, fsaM))] := hD.sub [0] (by decide) rfl
  exact W.zret (v := 1) hx hb hr rfl (fun t ht hW => ⟨⟨1, (), rfl, rfl, ⟨fsaM, hlaM, (fun j hj => rfl), by rw [ht]; exact hP9, hD9⟩⟩, hS.F ht⟩) hS.2.2 dX12_is_25

def zs_m_isHall : List Cond := .code yX12_isHall cX12_isHall 2 (some .boolean) :: (([.fieldLink RX12 201 "LanternHouseModel" "halls" "I"] : List Cond) ++ (wsX120 ++ []))
theorem gd_m_isHall : (zs_m_isHall).all goodWord = true := by decide +kernel
theorem in_m_isHall_12 : ∀ w ∈ wsX120, w ∈ zs_m_isHall := fun w h => List.mem_cons_of_mem _ (List.mem_append_right _ (List.mem_append_left _ h))
abbrev ws_m_isHall (cB cI cJ cZ cQ : ClassId) (aM : Nat) (iH : Int32) (fsaM : List Value) : va_W := [(aM, .inr (12, fsaM))]
set_option maxHeartbeats 4000000 in
set_option maxRecDepth 100000 in
theorem m_isHall (l : Launch) (dC : Nat → ClassId) (dI : Nat → Nat → Nat) (cB cI cJ cZ cQ : ClassId) (aM : Nat) (iH : Int32) (fsaM : List Value) (sz : Nat) (hlaM : fsaM.length = 87) (haM_43 : fsaM[43]? = some (.int 1)) : Met l yX12_isHall zs_m_isHall ({ frames := 0, cells := 0, slots := 0, locals := 0 } : Room) (zPc [.ref aM, .int iH] (dC, dI) (zTY cB cI cJ cZ cQ) (ws_m_isHall cB cI cJ cZ cQ aM iH fsaM) sz) (va_Qi (fun (zr : Int32) (_ : Unit) => (zr = 1 ∧ iH = 0) ∨ (zr = 0 ∧ ¬ iH = 0)) (fun (_ : Unit) (t : State) => ∃ (gsaM : List Value), gsaM.length = 87 ∧ (∀ j : Nat, ¬ j ∈ ([] : List Nat) → gsaM[j]? = fsaM[j]?) ∧ va_P (dC, dI) vwCl [(aM, .inr (12, gsaM))] t.heap ∧ va_D (va_A (ws_m_isHall cB cI cJ cZ cQ aM iH fsaM) sz) [(aM, .inr (12, gsaM))]) (va_A (ws_m_isHall cB cI cJ cZ cQ aM iH fsaM) sz)) 0 0 (va_A (ws_m_isHall cB cI cJ cZ cQ aM iH fsaM) sz) := by
  refine Met.ofW (cc := cX12_isHall) (maxL := 2) (ret := (some .boolean)) (by decide) rfl ?_
  intro p e s m args below meth c s₁ B hml hv
  obtain ⟨rfl, hsz, hP0, hK, hO, hD0⟩ := hv
  have hx := B.exec
  have hb := B.bytes
  have hr := B.returns
  have hts := atoms_spec (ws := zs_m_isHall) B.pre
  have hown : s.vm.findClass RX12 = some m.cls := findClass_of_methodNamed B.named
  have hlocks := B.notSynchronized
  subst hsz
  have hD8 := hD0.self (sz := s.heap.size)
  generalize hAe : va_A (ws_m_isHall cB cI cJ cZ cQ aM iH fsaM) s.heap.size = A at hD8 ⊢
  have hA : ∀ q : Nat, s.heap.size ≤ q → A q := fun q h => by rw [← hAe]; exact Or.inr h
  have hS : va_S A s.heap s.heap [] := va_S.rf
  have hP : va_P (dC, dI) vwCl [(aM, .inr (12, fsaM))] s.heap := hP0
  have hD : va_D A [(aM, .inr (12, fsaM))] := hD8
  have hl := lv_entry ([.ref aM, .int iH]) (n := 2) (Nat.le_of_ble_eq_true rfl)
  rw [lg_entry_eq]
  generalize (lg_sl ([.ref aM, .int iH]) ++ List.replicate (2 - (lg_sl ([.ref aM, .int iH])).length) Slot.unset).toArray = ls at hl ⊢
  have hl : lv_has ls 2 [(0, .ref aM), (1, .int iH)] := hl
  clear hP0 hD8 hD0
  refine zH0 (fun H hP hS => ?_) hP hS
  refine lv_iload_n hx hb dX12_isHall_0 rfl (lv_at hl 1 rfl) ?_
  refine lv_if_lt (tgt := 16) hx hb dX12_isHall_1 (by decide) (fun c1 => ?_) (fun c1 => ?_)
  · skip
    refine lv_iconst (v := 0) hx hb dX12_isHall_16 (by decide) ?_
    have hP9 : va_P (dC, dI) vwCl [(aM, .inr (12, fsaM))] H := hP.sub [0] rfl
    have hD9 : va_D A [(aM, .inr (12, fsaM))] := hD.sub [0] (by decide) rfl
    exact W.zret (v := 0) hx hb hr rfl (fun t ht hW => ⟨⟨0, (), rfl, (Or.inr ⟨rfl, (by simp only [Int32.lt_iff_toInt_lt, Int32.le_iff_toInt_le, ← Int32.toInt_inj, zi_m1, zi_0, zi_1, zi_6, zi_8, zi_M, zi_16, zi_20, zi_23, zi_24, zi_27, zi_29, zi_30, zi_40, zi_500, zi_700, zi_1000] at c1 ⊢<;> omega)⟩), ⟨fsaM, hlaM, (fun j hj => rfl), by rw [ht]; exact hP9, hD9⟩⟩, hS.F ht⟩) hS.2.2 dX12_isHall_17
  · skip
    refine lv_iload_n hx hb dX12_isHall_4 rfl (lv_at hl 1 rfl) ?_
    refine lv_aload_n hx hb dX12_isHall_5 rfl (lv_at hl 0 rfl) ?_
    refine va_get (D := (dC, dI)) (ci := 12) (v := .int 1) (C := RX12) (T := TX12) (N := 87) hx hb hts in_m_isHall_12 hown hK hP 0 rfl rfl 43 (by decide) (hts (.fieldLink RX12 201 "LanternHouseModel" "halls" "I") (by decide +kernel)) (fun _ h9 => h9) haM_43 dX12_isHall_6 ?_
    refine lv_icmp_ge (tgt := 16) hx hb dX12_isHall_9 (by decide) (fun c2 => ?_) (fun c2 => ?_)
    · skip
      refine lv_iconst (v := 0) hx hb dX12_isHall_16 (by decide) ?_
      have hP9 : va_P (dC, dI) vwCl [(aM, .inr (12, fsaM))] H := hP.sub [0] rfl
      have hD9 : va_D A [(aM, .inr (12, fsaM))] := hD.sub [0] (by decide) rfl
      exact W.zret (v := 0) hx hb hr rfl (fun t ht hW => ⟨⟨0, (), rfl, (Or.inr ⟨rfl, (by simp only [Int32.lt_iff_toInt_lt, Int32.le_iff_toInt_le, ← Int32.toInt_inj, zi_m1, zi_0, zi_1, zi_6, zi_8, zi_M, zi_16, zi_20, zi_23, zi_24, zi_27, zi_29, zi_30, zi_40, zi_500, zi_700, zi_1000] at c1 c2 ⊢<;> omega)⟩), ⟨fsaM, hlaM, (fun j hj => rfl), by rw [ht]; exact hP9, hD9⟩⟩, hS.F ht⟩) hS.2.2 dX12_isHall_17
    · skip
      have ziH : iH = 0 := z_inj (by simp only [Int32.lt_iff_toInt_lt, Int32.le_iff_toInt_le, ← Int32.toInt_inj, zi_m1, zi_0, zi_1, zi_6, zi_8, zi_M, zi_16, zi_20, zi_23, zi_24, zi_27, zi_29, zi_30, zi_40, zi_500, zi_700, zi_1000] at c1 c2 ⊢<;> omega)
      subst ziH
      refine lv_iconst (v := 1) hx hb dX12_isHall_12 (by decide) ?_
      refine lv_goto (tgt := 17) hx hb dX12_isHall_13 (by decide) ?_
      have hP9 : va_P (dC, dI) vwCl [(aM, .inr (12, fsaM))] H := hP.sub [0] rfl
      have hD9 : va_D A [(aM, .inr (12, fsaM))] := hD.sub [0] (by decide) rfl
      exact W.zret (v := 1) hx hb hr rfl (fun t ht hW => ⟨⟨1, (), rfl, (Or.inl ⟨rfl, (by decide)⟩), ⟨fsaM, hlaM, (fun j hj => rfl), by rw [ht]; exact hP9, hD9⟩⟩, hS.F ht⟩) hS.2.2 dX12_isHall_17

def zs_m_isPlate : List Cond := .code yX12_isPlate cX12_isPlate 2 (some .boolean) :: (([.fieldLink RX12 320 "LanternHouseModel" "plates" "I"] : List Cond) ++ (wsX120 ++ []))
theorem gd_m_isPlate : (zs_m_isPlate).all goodWord = true := by decide +kernel
theorem in_m_isPlate_12 : ∀ w ∈ wsX120, w ∈ zs_m_isPlate := fun w h => List.mem_cons_of_mem _ (List.mem_append_right _ (List.mem_append_left _ h))
abbrev ws_m_isPlate (cB cI cJ cZ cQ : ClassId) (aM : Nat) (iP : Int32) (fsaM : List Value) : va_W := [(aM, .inr (12, fsaM))]
set_option maxHeartbeats 4000000 in
set_option maxRecDepth 100000 in
theorem m_isPlate (l : Launch) (dC : Nat → ClassId) (dI : Nat → Nat → Nat) (cB cI cJ cZ cQ : ClassId) (aM : Nat) (iP : Int32) (fsaM : List Value) (sz : Nat) (hlaM : fsaM.length = 87) (haM_49 : fsaM[49]? = some (.int 0)) : Met l yX12_isPlate zs_m_isPlate ({ frames := 0, cells := 0, slots := 0, locals := 0 } : Room) (zPc [.ref aM, .int iP] (dC, dI) (zTY cB cI cJ cZ cQ) (ws_m_isPlate cB cI cJ cZ cQ aM iP fsaM) sz) (va_Qi (fun (zr : Int32) (_ : Unit) => zr = 0) (fun (_ : Unit) (t : State) => ∃ (gsaM : List Value), gsaM.length = 87 ∧ (∀ j : Nat, ¬ j ∈ ([] : List Nat) → gsaM[j]? = fsaM[j]?) ∧ va_P (dC, dI) vwCl [(aM, .inr (12, gsaM))] t.heap ∧ va_D (va_A (ws_m_isPlate cB cI cJ cZ cQ aM iP fsaM) sz) [(aM, .inr (12, gsaM))]) (va_A (ws_m_isPlate cB cI cJ cZ cQ aM iP fsaM) sz)) 0 0 (va_A (ws_m_isPlate cB cI cJ cZ cQ aM iP fsaM) sz) := by
  refine Met.ofW (cc := cX12_isPlate) (maxL := 2) (ret := (some .boolean)) (by decide) rfl ?_
  intro p e s m args below meth c s₁ B hml hv
  obtain ⟨rfl, hsz, hP0, hK, hO, hD0⟩ := hv
  have hx := B.exec
  have hb := B.bytes
  have hr := B.returns
  have hts := atoms_spec (ws := zs_m_isPlate) B.pre
  have hown : s.vm.findClass RX12 = some m.cls := findClass_of_methodNamed B.named
  have hlocks := B.notSynchronized
  subst hsz
  have hD8 := hD0.self (sz := s.heap.size)
  generalize hAe : va_A (ws_m_isPlate cB cI cJ cZ cQ aM iP fsaM) s.heap.size = A at hD8 ⊢
  have hA : ∀ q : Nat, s.heap.size ≤ q → A q := fun q h => by rw [← hAe]; exact Or.inr h
  have hS : va_S A s.heap s.heap [] := va_S.rf
  have hP : va_P (dC, dI) vwCl [(aM, .inr (12, fsaM))] s.heap := hP0
  have hD : va_D A [(aM, .inr (12, fsaM))] := hD8
  have hl := lv_entry ([.ref aM, .int iP]) (n := 2) (Nat.le_of_ble_eq_true rfl)
  rw [lg_entry_eq]
  generalize (lg_sl ([.ref aM, .int iP]) ++ List.replicate (2 - (lg_sl ([.ref aM, .int iP])).length) Slot.unset).toArray = ls at hl ⊢
  have hl : lv_has ls 2 [(0, .ref aM), (1, .int iP)] := hl
  clear hP0 hD8 hD0
  refine zH0 (fun H hP hS => ?_) hP hS
  refine lv_iload_n hx hb dX12_isPlate_0 rfl (lv_at hl 1 rfl) ?_
  refine lv_if_lt (tgt := 16) hx hb dX12_isPlate_1 (by decide) (fun c1 => ?_) (fun c1 => ?_)
  · skip
    refine lv_iconst (v := 0) hx hb dX12_isPlate_16 (by decide) ?_
    have hP9 : va_P (dC, dI) vwCl [(aM, .inr (12, fsaM))] H := hP.sub [0] rfl
    have hD9 : va_D A [(aM, .inr (12, fsaM))] := hD.sub [0] (by decide) rfl
    exact W.zret (v := 0) hx hb hr rfl (fun t ht hW => ⟨⟨0, (), rfl, rfl, ⟨fsaM, hlaM, (fun j hj => rfl), by rw [ht]; exact hP9, hD9⟩⟩, hS.F ht⟩) hS.2.2 dX12_isPlate_17
  · skip
    refine lv_iload_n hx hb dX12_isPlate_4 rfl (lv_at hl 1 rfl) ?_
    refine lv_aload_n hx hb dX12_isPlate_5 rfl (lv_at hl 0 rfl) ?_
    refine va_get (D := (dC, dI)) (ci := 12) (v := .int 0) (C := RX12) (T := TX12) (N := 87) hx hb hts in_m_isPlate_12 hown hK hP 0 rfl rfl 49 (by decide) (hts (.fieldLink RX12 320 "LanternHouseModel" "plates" "I") (by decide +kernel)) (fun _ h9 => h9) haM_49 dX12_isPlate_6 ?_
    refine lv_icmp_ge (tgt := 16) hx hb dX12_isPlate_9 (by decide) (fun c2 => ?_) (fun c2 => ?_)
    · skip
      refine lv_iconst (v := 0) hx hb dX12_isPlate_16 (by decide) ?_
      have hP9 : va_P (dC, dI) vwCl [(aM, .inr (12, fsaM))] H := hP.sub [0] rfl
      have hD9 : va_D A [(aM, .inr (12, fsaM))] := hD.sub [0] (by decide) rfl
      exact W.zret (v := 0) hx hb hr rfl (fun t ht hW => ⟨⟨0, (), rfl, rfl, ⟨fsaM, hlaM, (fun j hj => rfl), by rw [ht]; exact hP9, hD9⟩⟩, hS.F ht⟩) hS.2.2 dX12_isPlate_17
    · skip
      exfalso
      simp only [Int32.lt_iff_toInt_lt, Int32.le_iff_toInt_le, ← Int32.toInt_inj, zi_m1, zi_0, zi_1, zi_6, zi_8, zi_M, zi_16, zi_20, zi_23, zi_24, zi_27, zi_29, zi_30, zi_40, zi_500, zi_700, zi_1000] at c1 c2 <;> omega

def zs_m_isHour : List Cond := .code yX12_isHour cX12_isHour 1 (some .boolean) :: (([] : List Cond) ++ [])
theorem gd_m_isHour : (zs_m_isHour).all goodWord = true := by decide +kernel
abbrev ws_m_isHour (cB cI cJ cZ cQ : ClassId) (iHr : Int32) : va_W := []
set_option maxHeartbeats 4000000 in
set_option maxRecDepth 100000 in
theorem m_isHour (l : Launch) (dC : Nat → ClassId) (dI : Nat → Nat → Nat) (cB cI cJ cZ cQ : ClassId) (iHr : Int32) (sz : Nat) : Met l yX12_isHour zs_m_isHour ({ frames := 0, cells := 0, slots := 0, locals := 0 } : Room) (zPc [.int iHr] (dC, dI) (zTY cB cI cJ cZ cQ) (ws_m_isHour cB cI cJ cZ cQ iHr) sz) (va_Qi (fun (zr : Int32) (_ : Unit) => (zr = 1 ∧ ¬ iHr < 0 ∧ ¬ 700 < iHr) ∨ (zr = 0 ∧ iHr < 0) ∨ (zr = 0 ∧ 700 < iHr)) (fun (_ : Unit) (_ : State) => True) (va_A (ws_m_isHour cB cI cJ cZ cQ iHr) sz)) 0 0 (va_A (ws_m_isHour cB cI cJ cZ cQ iHr) sz) := by
  refine Met.ofW (cc := cX12_isHour) (maxL := 1) (ret := (some .boolean)) (by decide) rfl ?_
  intro p e s m args below meth c s₁ B hml hv
  obtain ⟨rfl, hsz, hP0, hK, hO, hD0⟩ := hv
  have hx := B.exec
  have hb := B.bytes
  have hr := B.returns
  have hts := atoms_spec (ws := zs_m_isHour) B.pre
  have hown : s.vm.findClass RX12 = some m.cls := findClass_of_methodNamed B.named
  have hlocks := B.notSynchronized
  subst hsz
  have hD8 := hD0.self (sz := s.heap.size)
  generalize hAe : va_A (ws_m_isHour cB cI cJ cZ cQ iHr) s.heap.size = A at hD8 ⊢
  have hA : ∀ q : Nat, s.heap.size ≤ q → A q := fun q h => by rw [← hAe]; exact Or.inr h
  have hS : va_S A s.heap s.heap [] := va_S.rf
  have hP : va_P (dC, dI) vwCl [] s.heap := hP0
  have hD : va_D A [] := hD8
  have hl := lv_entry ([.int iHr]) (n := 1) (Nat.le_of_ble_eq_true rfl)
  rw [lg_entry_eq]
  generalize (lg_sl ([.int iHr]) ++ List.replicate (1 - (lg_sl ([.int iHr])).length) Slot.unset).toArray = ls at hl ⊢
  have hl : lv_has ls 1 [(0, .int iHr)] := hl
  clear hP0 hD8 hD0
  refine zH0 (fun H hP hS => ?_) hP hS
  refine lv_iload_n hx hb dX12_isHour_0 rfl (lv_at hl 0 rfl) ?_
  refine lv_if_lt (tgt := 15) hx hb dX12_isHour_1 (by decide) (fun c1 => ?_) (fun c1 => ?_)
  · skip
    refine lv_iconst (v := 0) hx hb dX12_isHour_15 (by decide) ?_
    exact W.zret (v := 0) hx hb hr rfl (fun t ht hW => ⟨⟨0, (), rfl, (Or.inr (Or.inl ⟨rfl, (by simp only [Int32.lt_iff_toInt_lt, Int32.le_iff_toInt_le, ← Int32.toInt_inj, zi_m1, zi_0, zi_1, zi_6, zi_8, zi_M, zi_16, zi_20, zi_23, zi_24, zi_27, zi_29, zi_30, zi_40, zi_500, zi_700, zi_1000] at c1 ⊢<;> omega)⟩)), trivial⟩, hS.F ht⟩) hS.2.2 dX12_isHour_16
  · skip
    refine lv_iload_n hx hb dX12_isHour_4 rfl (lv_at hl 0 rfl) ?_
    refine lv_sipush (v := 700) hx hb dX12_isHour_5 (by decide) ?_
    refine lv_icmp_gt (tgt := 15) hx hb dX12_isHour_8 (by decide) (fun c2 => ?_) (fun c2 => ?_)
    · skip
      refine lv_iconst (v := 0) hx hb dX12_isHour_15 (by decide) ?_
      exact W.zret (v := 0) hx hb hr rfl (fun t ht hW => ⟨⟨0, (), rfl, (Or.inr (Or.inr ⟨rfl, (by simp only [Int32.lt_iff_toInt_lt, Int32.le_iff_toInt_le, ← Int32.toInt_inj, zi_m1, zi_0, zi_1, zi_6, zi_8, zi_M, zi_16, zi_20, zi_23, zi_24, zi_27, zi_29, zi_30, zi_40, zi_500, zi_700, zi_1000] at c1 c2 ⊢<;> omega)⟩)), trivial⟩, hS.F ht⟩) hS.2.2 dX12_isHour_16
    · skip
      refine lv_iconst (v := 1) hx hb dX12_isHour_11 (by decide) ?_
      refine lv_goto (tgt := 16) hx hb dX12_isHour_12 (by decide) ?_
      exact W.zret (v := 1) hx hb hr rfl (fun t ht hW => ⟨⟨1, (), rfl, (Or.inl ⟨rfl, (by simp only [Int32.lt_iff_toInt_lt, Int32.le_iff_toInt_le, ← Int32.toInt_inj, zi_m1, zi_0, zi_1, zi_6, zi_8, zi_M, zi_16, zi_20, zi_23, zi_24, zi_27, zi_29, zi_30, zi_40, zi_500, zi_700, zi_1000] at c1 c2 ⊢<;> omega), (by simp only [Int32.lt_iff_toInt_lt, Int32.le_iff_toInt_le, ← Int32.toInt_inj, zi_m1, zi_0, zi_1, zi_6, zi_8, zi_M, zi_16, zi_20, zi_23, zi_24, zi_27, zi_29, zi_30, zi_40, zi_500, zi_700, zi_1000] at c1 c2 ⊢<;> omega)⟩), trivial⟩, hS.F ht⟩) hS.2.2 dX12_isHour_16

def zs_m_isKnown : List Cond := .code yX12_isKnown cX12_isKnown 2 (some .boolean) :: (([.fieldLink RX12 323 "LanternHouseModel" "facts" "I"] : List Cond) ++ (wsX120 ++ []))
theorem gd_m_isKnown : (zs_m_isKnown).all goodWord = true := by decide +kernel
theorem in_m_isKnown_12 : ∀ w ∈ wsX120, w ∈ zs_m_isKnown := fun w h => List.mem_cons_of_mem _ (List.mem_append_right _ (List.mem_append_left _ h))
abbrev ws_m_isKnown (cB cI cJ cZ cQ : ClassId) (aM : Nat) (iN : Int32) (fsaM : List Value) : va_W := [(aM, .inr (12, fsaM))]
set_option maxHeartbeats 4000000 in
set_option maxRecDepth 100000 in
theorem m_isKnown (l : Launch) (dC : Nat → ClassId) (dI : Nat → Nat → Nat) (cB cI cJ cZ cQ : ClassId) (aM : Nat) (iN : Int32) (fsaM : List Value) (sz : Nat) (hlaM : fsaM.length = 87) (haM_52 : fsaM[52]? = some (.int 0)) : Met l yX12_isKnown zs_m_isKnown ({ frames := 0, cells := 0, slots := 0, locals := 0 } : Room) (zPc [.ref aM, .int iN] (dC, dI) (zTY cB cI cJ cZ cQ) (ws_m_isKnown cB cI cJ cZ cQ aM iN fsaM) sz) (va_Qi (fun (zr : Int32) (_ : Unit) => (zr = 1 ∧ iN = 0) ∨ (zr = 0 ∧ ¬ iN = 0)) (fun (_ : Unit) (t : State) => ∃ (gsaM : List Value), gsaM.length = 87 ∧ (∀ j : Nat, ¬ j ∈ ([] : List Nat) → gsaM[j]? = fsaM[j]?) ∧ va_P (dC, dI) vwCl [(aM, .inr (12, gsaM))] t.heap ∧ va_D (va_A (ws_m_isKnown cB cI cJ cZ cQ aM iN fsaM) sz) [(aM, .inr (12, gsaM))]) (va_A (ws_m_isKnown cB cI cJ cZ cQ aM iN fsaM) sz)) 0 0 (va_A (ws_m_isKnown cB cI cJ cZ cQ aM iN fsaM) sz) := by
  refine Met.ofW (cc := cX12_isKnown) (maxL := 2) (ret := (some .boolean)) (by decide) rfl ?_
  intro p e s m args below meth c s₁ B hml hv
  obtain ⟨rfl, hsz, hP0, hK, hO, hD0⟩ := hv
  have hx := B.exec
  have hb := B.bytes
  have hr := B.returns
  have hts := atoms_spec (ws := zs_m_isKnown) B.pre
  have hown : s.vm.findClass RX12 = some m.cls := findClass_of_methodNamed B.named
  have hlocks := B.notSynchronized
  subst hsz
  have hD8 := hD0.self (sz := s.heap.size)
  generalize hAe : va_A (ws_m_isKnown cB cI cJ cZ cQ aM iN fsaM) s.heap.size = A at hD8 ⊢
  have hA : ∀ q : Nat, s.heap.size ≤ q → A q := fun q h => by rw [← hAe]; exact Or.inr h
  have hS : va_S A s.heap s.heap [] := va_S.rf
  have hP : va_P (dC, dI) vwCl [(aM, .inr (12, fsaM))] s.heap := hP0
  have hD : va_D A [(aM, .inr (12, fsaM))] := hD8
  have hl := lv_entry ([.ref aM, .int iN]) (n := 2) (Nat.le_of_ble_eq_true rfl)
  rw [lg_entry_eq]
  generalize (lg_sl ([.ref aM, .int iN]) ++ List.replicate (2 - (lg_sl ([.ref aM, .int iN])).length) Slot.unset).toArray = ls at hl ⊢
  have hl : lv_has ls 2 [(0, .ref aM), (1, .int iN)] := hl
  clear hP0 hD8 hD0
  refine zH0 (fun H hP hS => ?_) hP hS
  refine lv_iload_n hx hb dX12_isKnown_0 rfl (lv_at hl 1 rfl) ?_
  refine lv_if_lt (tgt := 16) hx hb dX12_isKnown_1 (by decide) (fun c1 => ?_) (fun c1 => ?_)
  · skip
    refine lv_iconst (v := 0) hx hb dX12_isKnown_16 (by decide) ?_
    have hP9 : va_P (dC, dI) vwCl [(aM, .inr (12, fsaM))] H := hP.sub [0] rfl
    have hD9 : va_D A [(aM, .inr (12, fsaM))] := hD.sub [0] (by decide) rfl
    exact W.zret (v := 0) hx hb hr rfl (fun t ht hW => ⟨⟨0, (), rfl, (Or.inr ⟨rfl, (by simp only [Int32.lt_iff_toInt_lt, Int32.le_iff_toInt_le, ← Int32.toInt_inj, zi_m1, zi_0, zi_1, zi_6, zi_8, zi_M, zi_16, zi_20, zi_23, zi_24, zi_27, zi_29, zi_30, zi_40, zi_500, zi_700, zi_1000] at c1 ⊢<;> omega)⟩), ⟨fsaM, hlaM, (fun j hj => rfl), by rw [ht]; exact hP9, hD9⟩⟩, hS.F ht⟩) hS.2.2 dX12_isKnown_17
  · skip
    refine lv_iload_n hx hb dX12_isKnown_4 rfl (lv_at hl 1 rfl) ?_
    refine lv_aload_n hx hb dX12_isKnown_5 rfl (lv_at hl 0 rfl) ?_
    refine va_get (D := (dC, dI)) (ci := 12) (v := .int 0) (C := RX12) (T := TX12) (N := 87) hx hb hts in_m_isKnown_12 hown hK hP 0 rfl rfl 52 (by decide) (hts (.fieldLink RX12 323 "LanternHouseModel" "facts" "I") (by decide +kernel)) (fun _ h9 => h9) haM_52 dX12_isKnown_6 ?_
    refine lv_icmp_gt (tgt := 16) hx hb dX12_isKnown_9 (by decide) (fun c2 => ?_) (fun c2 => ?_)
    · skip
      refine lv_iconst (v := 0) hx hb dX12_isKnown_16 (by decide) ?_
      have hP9 : va_P (dC, dI) vwCl [(aM, .inr (12, fsaM))] H := hP.sub [0] rfl
      have hD9 : va_D A [(aM, .inr (12, fsaM))] := hD.sub [0] (by decide) rfl
      exact W.zret (v := 0) hx hb hr rfl (fun t ht hW => ⟨⟨0, (), rfl, (Or.inr ⟨rfl, (by simp only [Int32.lt_iff_toInt_lt, Int32.le_iff_toInt_le, ← Int32.toInt_inj, zi_m1, zi_0, zi_1, zi_6, zi_8, zi_M, zi_16, zi_20, zi_23, zi_24, zi_27, zi_29, zi_30, zi_40, zi_500, zi_700, zi_1000] at c1 c2 ⊢<;> omega)⟩), ⟨fsaM, hlaM, (fun j hj => rfl), by rw [ht]; exact hP9, hD9⟩⟩, hS.F ht⟩) hS.2.2 dX12_isKnown_17
    · skip
      have ziN : iN = 0 := z_inj (by simp only [Int32.lt_iff_toInt_lt, Int32.le_iff_toInt_le, ← Int32.toInt_inj, zi_m1, zi_0, zi_1, zi_6, zi_8, zi_M, zi_16, zi_20, zi_23, zi_24, zi_27, zi_29, zi_30, zi_40, zi_500, zi_700, zi_1000] at c1 c2 ⊢<;> omega)
      subst ziN
      refine lv_iconst (v := 1) hx hb dX12_isKnown_12 (by decide) ?_
      refine lv_goto (tgt := 17) hx hb dX12_isKnown_13 (by decide) ?_
      have hP9 : va_P (dC, dI) vwCl [(aM, .inr (12, fsaM))] H := hP.sub [0] rfl
      have hD9 : va_D A [(aM, .inr (12, fsaM))] := hD.sub [0] (by decide) rfl
      exact W.zret (v := 1) hx hb hr rfl (fun t ht hW => ⟨⟨1, (), rfl, (Or.inl ⟨rfl, (by decide)⟩), ⟨fsaM, hlaM, (fun j hj => rfl), by rw [ht]; exact hP9, hD9⟩⟩, hS.F ht⟩) hS.2.2 dX12_isKnown_17

def zs_m_isKept : List Cond := .code yX12_isKept cX12_isKept 2 (some .boolean) :: (([.fieldLink RX12 284 "LanternHouseModel" "shows" "I"] : List Cond) ++ (wsX120 ++ []))
theorem gd_m_isKept : (zs_m_isKept).all goodWord = true := by decide +kernel
theorem in_m_isKept_12 : ∀ w ∈ wsX120, w ∈ zs_m_isKept := fun w h => List.mem_cons_of_mem _ (List.mem_append_right _ (List.mem_append_left _ h))
abbrev ws_m_isKept (cB cI cJ cZ cQ : ClassId) (aM : Nat) (iX : Int32) (fsaM : List Value) : va_W := [(aM, .inr (12, fsaM))]
set_option maxHeartbeats 4000000 in
set_option maxRecDepth 100000 in
theorem m_isKept (l : Launch) (dC : Nat → ClassId) (dI : Nat → Nat → Nat) (cB cI cJ cZ cQ : ClassId) (aM : Nat) (iX : Int32) (fsaM : List Value) (sz : Nat) (hlaM : fsaM.length = 87) (haM_59 : fsaM[59]? = some (.int 0)) : Met l yX12_isKept zs_m_isKept ({ frames := 0, cells := 0, slots := 0, locals := 0 } : Room) (zPc [.ref aM, .int iX] (dC, dI) (zTY cB cI cJ cZ cQ) (ws_m_isKept cB cI cJ cZ cQ aM iX fsaM) sz) (va_Qi (fun (zr : Int32) (_ : Unit) => zr = 0) (fun (_ : Unit) (t : State) => ∃ (gsaM : List Value), gsaM.length = 87 ∧ (∀ j : Nat, ¬ j ∈ ([] : List Nat) → gsaM[j]? = fsaM[j]?) ∧ va_P (dC, dI) vwCl [(aM, .inr (12, gsaM))] t.heap ∧ va_D (va_A (ws_m_isKept cB cI cJ cZ cQ aM iX fsaM) sz) [(aM, .inr (12, gsaM))]) (va_A (ws_m_isKept cB cI cJ cZ cQ aM iX fsaM) sz)) 0 0 (va_A (ws_m_isKept cB cI cJ cZ cQ aM iX fsaM) sz) := by
  refine Met.ofW (cc := cX12_isKept) (maxL := 2) (ret := (some .boolean)) (by decide) rfl ?_
  intro p e s m args below meth c s₁ B hml hv
  obtain ⟨rfl, hsz, hP0, hK, hO, hD0⟩ := hv
  have hx := B.exec
  have hb := B.bytes
  have hr := B.returns
  have hts := atoms_spec (ws := zs_m_isKept) B.pre
  have hown : s.vm.findClass RX12 = some m.cls := findClass_of_methodNamed B.named
  have hlocks := B.notSynchronized
  subst hsz
  have hD8 := hD0.self (sz := s.heap.size)
  generalize hAe : va_A (ws_m_isKept cB cI cJ cZ cQ aM iX fsaM) s.heap.size = A at hD8 ⊢
  have hA : ∀ q : Nat, s.heap.size ≤ q → A q := fun q h => by rw [← hAe]; exact Or.inr h
  have hS : va_S A s.heap s.heap [] := va_S.rf
  have hP : va_P (dC, dI) vwCl [(aM, .inr (12, fsaM))] s.heap := hP0
  have hD : va_D A [(aM, .inr (12, fsaM))] := hD8
  have hl := lv_entry ([.ref aM, .int iX]) (n := 2) (Nat.le_of_ble_eq_true rfl)
  rw [lg_entry_eq]
  generalize (lg_sl ([.ref aM, .int iX]) ++ List.replicate (2 - (lg_sl ([.ref aM, .int iX])).length) Slot.unset).toArray = ls at hl ⊢
  have hl : lv_has ls 2 [(0, .ref aM), (1, .int iX)] := hl
  clear hP0 hD8 hD0
  refine zH0 (fun H hP hS => ?_) hP hS
  refine lv_iload_n hx hb dX12_isKept_0 rfl (lv_at hl 1 rfl) ?_
  refine lv_if_lt (tgt := 35) hx hb dX12_isKept_1 (by decide) (fun c1 => ?_) (fun c1 => ?_)
  · skip
    refine lv_iconst (v := 0) hx hb dX12_isKept_35 (by decide) ?_
    have hP9 : va_P (dC, dI) vwCl [(aM, .inr (12, fsaM))] H := hP.sub [0] rfl
    have hD9 : va_D A [(aM, .inr (12, fsaM))] := hD.sub [0] (by decide) rfl
    exact W.zret (v := 0) hx hb hr rfl (fun t ht hW => ⟨⟨0, (), rfl, rfl, ⟨fsaM, hlaM, (fun j hj => rfl), by rw [ht]; exact hP9, hD9⟩⟩, hS.F ht⟩) hS.2.2 dX12_isKept_36
  · skip
    refine lv_iload_n hx hb dX12_isKept_4 rfl (lv_at hl 1 rfl) ?_
    refine lv_aload_n hx hb dX12_isKept_5 rfl (lv_at hl 0 rfl) ?_
    refine va_get (D := (dC, dI)) (ci := 12) (v := .int 0) (C := RX12) (T := TX12) (N := 87) hx hb hts in_m_isKept_12 hown hK hP 0 rfl rfl 59 (by decide) (hts (.fieldLink RX12 284 "LanternHouseModel" "shows" "I") (by decide +kernel)) (fun _ h9 => h9) haM_59 dX12_isKept_6 ?_
    refine lv_icmp_ge (tgt := 35) hx hb dX12_isKept_9 (by decide) (fun c2 => ?_) (fun c2 => ?_)
    · skip
      refine lv_iconst (v := 0) hx hb dX12_isKept_35 (by decide) ?_
      have hP9 : va_P (dC, dI) vwCl [(aM, .inr (12, fsaM))] H := hP.sub [0] rfl
      have hD9 : va_D A [(aM, .inr (12, fsaM))] := hD.sub [0] (by decide) rfl
      exact W.zret (v := 0) hx hb hr rfl (fun t ht hW => ⟨⟨0, (), rfl, rfl, ⟨fsaM, hlaM, (fun j hj => rfl), by rw [ht]; exact hP9, hD9⟩⟩, hS.F ht⟩) hS.2.2 dX12_isKept_36
    · skip
      exfalso
      simp only [Int32.lt_iff_toInt_lt, Int32.le_iff_toInt_le, ← Int32.toInt_inj, zi_m1, zi_0, zi_1, zi_6, zi_8, zi_M, zi_16, zi_20, zi_23, zi_24, zi_27, zi_29, zi_30, zi_40, zi_500, zi_700, zi_1000] at c1 c2 <;> omega

def zs_m_knows : List Cond := .code yX12_knows cX12_knows 3 none :: (([.fieldLink RX12 128 "LanternHouseModel" "stillFor" "I", .fieldLink RX12 131 "LanternHouseModel" "still" "[Z"] : List Cond) ++ (wsX120 ++ []))
theorem gd_m_knows : (zs_m_knows).all goodWord = true := by decide +kernel
theorem in_m_knows_12 : ∀ w ∈ wsX120, w ∈ zs_m_knows := fun w h => List.mem_cons_of_mem _ (List.mem_append_right _ (List.mem_append_left _ h))
abbrev ws_m_knows (cB cI cJ cZ cQ : ClassId) (aM qSt : Nat) (fSt : Nat → Int32) (fsaM : List Value) : va_W := [(aM, .inr (12, fsaM)), (qSt, .inl (cZ, 656, .inl fSt))]
set_option maxHeartbeats 4000000 in
set_option maxRecDepth 100000 in
theorem m_knows (l : Launch) (dC : Nat → ClassId) (dI : Nat → Nat → Nat) (cB cI cJ cZ cQ : ClassId) (aM qSt : Nat) (fSt : Nat → Int32) (fsaM : List Value) (sz : Nat) (hlaM : fsaM.length = 87) (haM_56 : fsaM[56]? = some (.int (-1))) (haM_57 : fsaM[57]? = some (.ref qSt)) : Met l yX12_knows zs_m_knows ({ frames := 0, cells := 0, slots := 0, locals := 0 } : Room) (zPc [.ref aM, .int 0] (dC, dI) (zTY cB cI cJ cZ cQ) (ws_m_knows cB cI cJ cZ cQ aM qSt fSt fsaM) sz) (va_Qv (fun (_ : Unit) => True) (fun (_ : Unit) (t : State) => ∃ (gsaM : List Value), gsaM.length = 87 ∧ (∀ j : Nat, ¬ j ∈ ([56] : List Nat) → gsaM[j]? = fsaM[j]?) ∧ va_P (dC, dI) vwCl [(aM, .inr (12, gsaM))] t.heap ∧ va_D (va_A (ws_m_knows cB cI cJ cZ cQ aM qSt fSt fsaM) sz) [(aM, .inr (12, gsaM))]) (va_A (ws_m_knows cB cI cJ cZ cQ aM qSt fSt fsaM) sz)) 0 0 (va_A (ws_m_knows cB cI cJ cZ cQ aM qSt fSt fsaM) sz) := by
  refine Met.ofW (cc := cX12_knows) (maxL := 3) (ret := none) (by decide) rfl ?_
  intro p e s m args below meth c s₁ B hml hv
  obtain ⟨rfl, hsz, hP0, hK, hO, hD0⟩ := hv
  have hx := B.exec
  have hb := B.bytes
  have hr := B.returns
  have hts := atoms_spec (ws := zs_m_knows) B.pre
  have hown : s.vm.findClass RX12 = some m.cls := findClass_of_methodNamed B.named
  have hlocks := B.notSynchronized
  subst hsz
  have hD8 := hD0.self (sz := s.heap.size)
  generalize hAe : va_A (ws_m_knows cB cI cJ cZ cQ aM qSt fSt fsaM) s.heap.size = A at hD8 ⊢
  have hA : ∀ q : Nat, s.heap.size ≤ q → A q := fun q h => by rw [← hAe]; exact Or.inr h
  have hS : va_S A s.heap s.heap [] := va_S.rf
  have hP : va_P (dC, dI) vwCl [(aM, .inr (12, fsaM)), (qSt, .inl (cZ, 656, .inl fSt))] s.heap := hP0
  have hD : va_D A [(aM, .inr (12, fsaM)), (qSt, .inl (cZ, 656, .inl fSt))] := hD8
  have hl := lv_entry ([.ref aM, .int 0]) (n := 3) (Nat.le_of_ble_eq_true rfl)
  rw [lg_entry_eq]
  generalize (lg_sl ([.ref aM, .int 0]) ++ List.replicate (3 - (lg_sl ([.ref aM, .int 0])).length) Slot.unset).toArray = ls at hl ⊢
  have hl : lv_has ls 3 [(0, .ref aM), (1, .int 0)] := hl
  clear hP0 hD8 hD0
  refine zH0 (fun H hP hS => ?_) hP hS
  refine lv_aload_n hx hb dX12_knows_0 rfl (lv_at hl 0 rfl) ?_
  refine va_get (D := (dC, dI)) (ci := 12) (v := .int (-1)) (C := RX12) (T := TX12) (N := 87) hx hb hts in_m_knows_12 hown hK hP 0 rfl rfl 56 (by decide) (hts (.fieldLink RX12 128 "LanternHouseModel" "stillFor" "I") (by decide +kernel)) (fun _ h9 => h9) haM_56 dX12_knows_1 ?_
  refine lv_iload_n hx hb dX12_knows_4 rfl (lv_at hl 1 rfl) ?_
  refine lv_icmp_ne (tgt := 9) hx hb dX12_knows_5 (by decide) (fun _ => ?_) (fun zc => absurd zc (by decide))
  refine lv_iconst (v := 0) hx hb dX12_knows_9 (by decide) ?_
  refine lv_istore_n (lv' := [(2, .int 0), (0, .ref aM), (1, .int 0)]) hx hb dX12_knows_10 rfl hl (by decide) rfl (fun ls hl => ?_)
  have loop4 : ∀ (n2 k1 : Nat), k1 + n2 = 656 → ∀ (g3 : Nat → Int32), ∀ (H : Heap) (locs : List Loc) (ls : Array Slot), va_P (dC, dI) vwCl [(aM, .inr (12, fsaM)), (qSt, .inl (cZ, 656, .inl g3))] H → va_D A [(aM, .inr (12, fsaM)), (qSt, .inl (cZ, 656, .inl g3))] → va_S A s.heap H locs → lv_has ls 3 [(2, .int (nI k1)), (0, .ref aM), (1, .int 0)] → W p l e (headSpec zs_m_knows ({ frames := 0, cells := 0, slots := 0, locals := 0 } : Room)).room s m ([.ref aM, .int 0] : List Value).toArray below meth c H locs 0 0 (MQ below (va_Qv (fun (_ : Unit) => True) (fun (_ : Unit) (t : State) => ∃ (gsaM : List Value), gsaM.length = 87 ∧ (∀ j : Nat, ¬ j ∈ ([56] : List Nat) → gsaM[j]? = fsaM[j]?) ∧ va_P (dC, dI) vwCl [(aM, .inr (12, gsaM))] t.heap ∧ va_D A [(aM, .inr (12, gsaM))]) A) ([.ref aM, .int 0] : List Value).toArray s 0 0 A) (F0 m 11 ls []) := by
    intro n2
    induction n2 with
    | zero =>
      intro k1 hk g3 H locs ls hP hD hS hl
      obtain rfl : k1 = 656 := by omega
      rw [show nI 656 = 656 from by decide] at hl
      refine lv_iload_n hx hb dX12_knows_11 rfl (lv_at hl 0 rfl) ?_
      refine lv_sipush (v := 656) hx hb dX12_knows_12 (by decide) ?_
      refine lv_icmp_ge (tgt := 31) hx hb dX12_knows_15 (by decide) (fun _ => ?_) (fun zc => absurd zc (by decide))
      refine lv_iconst (v := 0) hx hb dX12_knows_31 (by decide) ?_
      refine lv_istore_n (lv' := [(2, .int 0), (0, .ref aM), (1, .int 0)]) hx hb dX12_knows_32 rfl hl (by decide) rfl (fun ls hl => ?_)
      refine lv_iload_n hx hb dX12_knows_33 rfl (lv_at hl 0 rfl) ?_
      refine lv_iload_n hx hb dX12_knows_34 rfl (lv_at hl 2 rfl) ?_
      refine lv_icmp_ge (tgt := 75) hx hb dX12_knows_35 (by decide) (fun _ => ?_) (fun zc => absurd zc (by decide))
      refine lv_aload_n hx hb dX12_knows_75 rfl (lv_at hl 1 rfl) ?_
      refine lv_iload_n hx hb dX12_knows_76 rfl (lv_at hl 2 rfl) ?_
      refine va_put (D := (dC, dI)) (ci := 12) (v := .int 0) (ty := .int) (C := RX12) (T := TX12) (N := 87) hx hb hts in_m_knows_12 tyX12 tyX12_ok nmX12 hown hK hP hD hS 0 rfl rfl 56 (by decide) (hts (.fieldLink RX12 128 "LanternHouseModel" "stillFor" "I") (by decide +kernel)) (fun _ h9 => h9) rfl (by decide +kernel) rfl rfl (by rw [hlaM]; decide) dX12_knows_77 (fun H locs hP hD hS => ?_)
      have hP : va_P (dC, dI) vwCl [(aM, .inr (12, (List.set fsaM 56 (.int 0)))), (qSt, .inl (cZ, 656, .inl g3))] H := hP
      have hD : va_D A [(aM, .inr (12, (List.set fsaM 56 (.int 0)))), (qSt, .inl (cZ, 656, .inl g3))] := hD
      have hP9 : va_P (dC, dI) vwCl [(aM, .inr (12, (List.set fsaM 56 (.int 0))))] H := hP.sub [0] rfl
      have hD9 : va_D A [(aM, .inr (12, (List.set fsaM 56 (.int 0))))] := hD.sub [0] (by decide) rfl
      exact W.vret hx hb hr (fun t ht hW => ⟨⟨(), rfl, trivial, ⟨(List.set fsaM 56 (.int 0)), (zset_len hlaM), (fun j hj => ((zfr (by decide) hj).trans rfl)), by rw [ht]; exact hP9, hD9⟩⟩, hS.F ht⟩) hS.2.2 dX12_knows_80
    | succ n2 ih =>
      intro k1 hk g3 H locs ls hP hD hS hl
      refine lv_iload_n hx hb dX12_knows_11 rfl (lv_at hl 0 rfl) ?_
      refine lv_sipush (v := 656) hx hb dX12_knows_12 (by decide) ?_
      refine lv_icmp_ge (tgt := 31) hx hb dX12_knows_15 (by decide) (fun zc => absurd zc (by rw [show (656 : Int32) = nI 656 from by decide]; exact nI_ge (by omega) (by decide))) (fun _ => ?_)
      refine lv_aload_n hx hb dX12_knows_18 rfl (lv_at hl 1 rfl) ?_
      refine va_get (D := (dC, dI)) (ci := 12) (v := .ref qSt) (C := RX12) (T := TX12) (N := 87) hx hb hts in_m_knows_12 hown hK hP 0 rfl rfl 57 (by decide) (hts (.fieldLink RX12 131 "LanternHouseModel" "still" "[Z") (by decide +kernel)) (fun _ h9 => h9) haM_57 dX12_knows_19 ?_
      refine lv_iload_n hx hb dX12_knows_22 rfl (lv_at hl 0 rfl) ?_
      refine lv_iconst (v := 0) hx hb dX12_knows_23 (by decide) ?_
      refine z_zast hx hb hK hP hD hS 1 3 rfl rfl (vp_in_nI (by omega) (by first | decide | omega)) dX12_knows_24 (fun H locs g5 hg5 hP hD hS => ?_)
      have hP : va_P (dC, dI) vwCl [(aM, .inr (12, fsaM)), (qSt, .inl (cZ, 656, .inl g5))] H := hP
      have hD : va_D A [(aM, .inr (12, fsaM)), (qSt, .inl (cZ, 656, .inl g5))] := hD
      refine lv_iinc (v := (nI (k1 + 1))) (lv' := [(2, .int (nI (k1 + 1))), (0, .ref aM), (1, .int 0)]) hx hb dX12_knows_25 hl (k := 0) rfl (nI_1 _) (by decide) rfl (fun ls hl => ?_)
      refine lv_goto (tgt := 11) hx hb dX12_knows_28 (by decide) ?_
      exact ih (k1 + 1) (by omega) _ _ _ _ hP hD hS (lv_sub hl [0, 1, 2] rfl)
  exact loop4 656 0 (by omega) _ _ _ _ hP hD hS (by rw [nI_0]; exact lv_sub hl [0, 1, 2] rfl)

def zs_m_wayTo : List Cond := .code yX12_wayTo cX12_wayTo 8 (some .int) :: (([.fieldLink RX12 134 "LanternHouseModel" "soonest" "[I", .constant RX12 351 (1000000), .fieldLink RX12 326 "LanternHouseModel" "trains" "I"] : List Cond) ++ (wsX120 ++ []))
theorem gd_m_wayTo : (zs_m_wayTo).all goodWord = true := by decide +kernel
theorem in_m_wayTo_12 : ∀ w ∈ wsX120, w ∈ zs_m_wayTo := fun w h => List.mem_cons_of_mem _ (List.mem_append_right _ (List.mem_append_left _ h))
abbrev ws_m_wayTo (cB cI cJ cZ cQ : ClassId) (aM qSo : Nat) (iHr : Int32) (fSo : Nat → Int32) (fsaM : List Value) : va_W := [(aM, .inr (12, fsaM)), (qSo, .inl (cI, 6, .inl fSo))]
set_option maxHeartbeats 4000000 in
set_option maxRecDepth 100000 in
theorem m_wayTo (l : Launch) (dC : Nat → ClassId) (dI : Nat → Nat → Nat) (cB cI cJ cZ cQ : ClassId) (aM qSo : Nat) (iHr : Int32) (fSo : Nat → Int32) (fsaM : List Value) (sz : Nat) (hlaM : fsaM.length = 87) (haM_44 : fsaM[44]? = some (.int 0)) (haM_58 : fsaM[58]? = some (.ref qSo)) : Met l yX12_wayTo zs_m_wayTo ({ frames := 0, cells := 0, slots := 0, locals := 0 } : Room) (zPc [.ref aM, .int 0, .int 0, .int iHr] (dC, dI) (zTY cB cI cJ cZ cQ) (ws_m_wayTo cB cI cJ cZ cQ aM qSo iHr fSo fsaM) sz) (va_Qi (fun (zr : Int32) (_ : Unit) => zr = iHr) (fun (_ : Unit) (_ : State) => True) (va_A (ws_m_wayTo cB cI cJ cZ cQ aM qSo iHr fSo fsaM) sz)) 0 0 (va_A (ws_m_wayTo cB cI cJ cZ cQ aM qSo iHr fSo fsaM) sz) := by
  refine Met.ofW (cc := cX12_wayTo) (maxL := 8) (ret := (some .int)) (by decide) rfl ?_
  intro p e s m args below meth c s₁ B hml hv
  obtain ⟨rfl, hsz, hP0, hK, hO, hD0⟩ := hv
  have hx := B.exec
  have hb := B.bytes
  have hr := B.returns
  have hts := atoms_spec (ws := zs_m_wayTo) B.pre
  have hown : s.vm.findClass RX12 = some m.cls := findClass_of_methodNamed B.named
  have hlocks := B.notSynchronized
  subst hsz
  have hD8 := hD0.self (sz := s.heap.size)
  generalize hAe : va_A (ws_m_wayTo cB cI cJ cZ cQ aM qSo iHr fSo fsaM) s.heap.size = A at hD8 ⊢
  have hA : ∀ q : Nat, s.heap.size ≤ q → A q := fun q h => by rw [← hAe]; exact Or.inr h
  have hS : va_S A s.heap s.heap [] := va_S.rf
  have hP : va_P (dC, dI) vwCl [(aM, .inr (12, fsaM)), (qSo, .inl (cI, 6, .inl fSo))] s.heap := hP0
  have hD : va_D A [(aM, .inr (12, fsaM)), (qSo, .inl (cI, 6, .inl fSo))] := hD8
  have hl := lv_entry ([.ref aM, .int 0, .int 0, .int iHr]) (n := 8) (Nat.le_of_ble_eq_true rfl)
  rw [lg_entry_eq]
  generalize (lg_sl ([.ref aM, .int 0, .int 0, .int iHr]) ++ List.replicate (8 - (lg_sl ([.ref aM, .int 0, .int 0, .int iHr])).length) Slot.unset).toArray = ls at hl ⊢
  have hl : lv_has ls 8 [(0, .ref aM), (1, .int 0), (2, .int 0), (3, .int iHr)] := hl
  clear hP0 hD8 hD0
  refine zH0 (fun H hP hS => ?_) hP hS
  refine lv_iload_n hx hb dX12_wayTo_0 rfl (lv_at hl 3 rfl) ?_
  refine lv_bipush (v := 24) hx hb dX12_wayTo_1 (by decide) ?_
  refine lv_idiv hx hb dX12_wayTo_3 (by decide) ?_
  refine lv_topi (fun x1 ex1 => ?_)
  refine lv_bipush (v := 60) hx hb dX12_wayTo_4 (by decide) ?_
  refine lv_iadd hx hb dX12_wayTo_6 ?_
  refine lv_topi (fun x2 ex2 => ?_)
  refine lv_istore (lv' := [(4, .int x2), (0, .ref aM), (1, .int 0), (2, .int 0), (3, .int iHr)]) hx hb dX12_wayTo_7 hl (by decide) rfl (fun ls hl => ?_)
  refine lv_iconst (v := 0) hx hb dX12_wayTo_9 (by decide) ?_
  refine lv_istore (lv' := [(5, .int 0), (4, .int x2), (0, .ref aM), (1, .int 0), (2, .int 0), (3, .int iHr)]) hx hb dX12_wayTo_10 hl (by decide) rfl (fun ls hl => ?_)
  refine lv_iload hx hb dX12_wayTo_12 (lv_at hl 0 rfl) ?_
  refine lv_bipush (v := 6) hx hb dX12_wayTo_14 (by decide) ?_
  refine lv_icmp_ge (tgt := 35) hx hb dX12_wayTo_16 (by decide) (fun zc => absurd zc (by decide)) (fun _ => ?_)
  refine lv_aload_n hx hb dX12_wayTo_19 rfl (lv_at hl 2 rfl) ?_
  refine va_get (D := (dC, dI)) (ci := 12) (v := .ref qSo) (C := RX12) (T := TX12) (N := 87) hx hb hts in_m_wayTo_12 hown hK hP 0 rfl rfl 58 (by decide) (hts (.fieldLink RX12 134 "LanternHouseModel" "soonest" "[I") (by decide +kernel)) (fun _ h9 => h9) haM_58 dX12_wayTo_20 ?_
  refine lv_iload hx hb dX12_wayTo_23 (lv_at hl 0 rfl) ?_
  refine lv_ldcw (v := 1000000) hx hb hown (hts (.constant RX12 351 (1000000)) (by decide +kernel)) dX12_wayTo_25 ?_
  refine z_iast hx hb hK hP hD hS 1 1 rfl rfl (show ¬ ((0 : Int32) < 0 ∨ 6 ≤ (0 : Int32).toNatClampNeg) from by decide) dX12_wayTo_28 (fun H locs g3 hg3 hP hD hS => ?_)
  have hP : va_P (dC, dI) vwCl [(aM, .inr (12, fsaM)), (qSo, .inl (cI, 6, .inl g3))] H := hP
  have hD : va_D A [(aM, .inr (12, fsaM)), (qSo, .inl (cI, 6, .inl g3))] := hD
  refine lv_iinc (v := 1) (lv' := [(5, .int 1), (4, .int x2), (0, .ref aM), (1, .int 0), (2, .int 0), (3, .int iHr)]) hx hb dX12_wayTo_29 hl (k := 0) rfl (by decide) (by decide) rfl (fun ls hl => ?_)
  refine lv_goto (tgt := 12) hx hb dX12_wayTo_32 (by decide) ?_
  refine lv_iload hx hb dX12_wayTo_12 (lv_at hl 0 rfl) ?_
  refine lv_bipush (v := 6) hx hb dX12_wayTo_14 (by decide) ?_
  refine lv_icmp_ge (tgt := 35) hx hb dX12_wayTo_16 (by decide) (fun zc => absurd zc (by decide)) (fun _ => ?_)
  refine lv_aload_n hx hb dX12_wayTo_19 rfl (lv_at hl 2 rfl) ?_
  refine va_get (D := (dC, dI)) (ci := 12) (v := .ref qSo) (C := RX12) (T := TX12) (N := 87) hx hb hts in_m_wayTo_12 hown hK hP 0 rfl rfl 58 (by decide) (hts (.fieldLink RX12 134 "LanternHouseModel" "soonest" "[I") (by decide +kernel)) (fun _ h9 => h9) haM_58 dX12_wayTo_20 ?_
  refine lv_iload hx hb dX12_wayTo_23 (lv_at hl 0 rfl) ?_
  refine lv_ldcw (v := 1000000) hx hb hown (hts (.constant RX12 351 (1000000)) (by decide +kernel)) dX12_wayTo_25 ?_
  refine z_iast hx hb hK hP hD hS 1 1 rfl rfl (show ¬ ((1 : Int32) < 0 ∨ 6 ≤ (1 : Int32).toNatClampNeg) from by decide) dX12_wayTo_28 (fun H locs g4 hg4 hP hD hS => ?_)
  have hP : va_P (dC, dI) vwCl [(aM, .inr (12, fsaM)), (qSo, .inl (cI, 6, .inl g4))] H := hP
  have hD : va_D A [(aM, .inr (12, fsaM)), (qSo, .inl (cI, 6, .inl g4))] := hD
  refine lv_iinc (v := 2) (lv' := [(5, .int 2), (4, .int x2), (0, .ref aM), (1, .int 0), (2, .int 0), (3, .int iHr)]) hx hb dX12_wayTo_29 hl (k := 0) rfl (by decide) (by decide) rfl (fun ls hl => ?_)
  refine lv_goto (tgt := 12) hx hb dX12_wayTo_32 (by decide) ?_
  refine lv_iload hx hb dX12_wayTo_12 (lv_at hl 0 rfl) ?_
  refine lv_bipush (v := 6) hx hb dX12_wayTo_14 (by decide) ?_
  refine lv_icmp_ge (tgt := 35) hx hb dX12_wayTo_16 (by decide) (fun zc => absurd zc (by decide)) (fun _ => ?_)
  refine lv_aload_n hx hb dX12_wayTo_19 rfl (lv_at hl 2 rfl) ?_
  refine va_get (D := (dC, dI)) (ci := 12) (v := .ref qSo) (C := RX12) (T := TX12) (N := 87) hx hb hts in_m_wayTo_12 hown hK hP 0 rfl rfl 58 (by decide) (hts (.fieldLink RX12 134 "LanternHouseModel" "soonest" "[I") (by decide +kernel)) (fun _ h9 => h9) haM_58 dX12_wayTo_20 ?_
  refine lv_iload hx hb dX12_wayTo_23 (lv_at hl 0 rfl) ?_
  refine lv_ldcw (v := 1000000) hx hb hown (hts (.constant RX12 351 (1000000)) (by decide +kernel)) dX12_wayTo_25 ?_
  refine z_iast hx hb hK hP hD hS 1 1 rfl rfl (show ¬ ((2 : Int32) < 0 ∨ 6 ≤ (2 : Int32).toNatClampNeg) from by decide) dX12_wayTo_28 (fun H locs g5 hg5 hP hD hS => ?_)
  have hP : va_P (dC, dI) vwCl [(aM, .inr (12, fsaM)), (qSo, .inl (cI, 6, .inl g5))] H := hP
  have hD : va_D A [(aM, .inr (12, fsaM)), (qSo, .inl (cI, 6, .inl g5))] := hD
  refine lv_iinc (v := 3) (lv' := [(5, .int 3), (4, .int x2), (0, .ref aM), (1, .int 0), (2, .int 0), (3, .int iHr)]) hx hb dX12_wayTo_29 hl (k := 0) rfl (by decide) (by decide) rfl (fun ls hl => ?_)
  refine lv_goto (tgt := 12) hx hb dX12_wayTo_32 (by decide) ?_
  refine lv_iload hx hb dX12_wayTo_12 (lv_at hl 0 rfl) ?_
  refine lv_bipush (v := 6) hx hb dX12_wayTo_14 (by decide) ?_
  refine lv_icmp_ge (tgt := 35) hx hb dX12_wayTo_16 (by decide) (fun zc => absurd zc (by decide)) (fun _ => ?_)
  refine lv_aload_n hx hb dX12_wayTo_19 rfl (lv_at hl 2 rfl) ?_
  refine va_get (D := (dC, dI)) (ci := 12) (v := .ref qSo) (C := RX12) (T := TX12) (N := 87) hx hb hts in_m_wayTo_12 hown hK hP 0 rfl rfl 58 (by decide) (hts (.fieldLink RX12 134 "LanternHouseModel" "soonest" "[I") (by decide +kernel)) (fun _ h9 => h9) haM_58 dX12_wayTo_20 ?_
  refine lv_iload hx hb dX12_wayTo_23 (lv_at hl 0 rfl) ?_
  refine lv_ldcw (v := 1000000) hx hb hown (hts (.constant RX12 351 (1000000)) (by decide +kernel)) dX12_wayTo_25 ?_
  refine z_iast hx hb hK hP hD hS 1 1 rfl rfl (show ¬ ((3 : Int32) < 0 ∨ 6 ≤ (3 : Int32).toNatClampNeg) from by decide) dX12_wayTo_28 (fun H locs g6 hg6 hP hD hS => ?_)
  have hP : va_P (dC, dI) vwCl [(aM, .inr (12, fsaM)), (qSo, .inl (cI, 6, .inl g6))] H := hP
  have hD : va_D A [(aM, .inr (12, fsaM)), (qSo, .inl (cI, 6, .inl g6))] := hD
  refine lv_iinc (v := 4) (lv' := [(5, .int 4), (4, .int x2), (0, .ref aM), (1, .int 0), (2, .int 0), (3, .int iHr)]) hx hb dX12_wayTo_29 hl (k := 0) rfl (by decide) (by decide) rfl (fun ls hl => ?_)
  refine lv_goto (tgt := 12) hx hb dX12_wayTo_32 (by decide) ?_
  refine lv_iload hx hb dX12_wayTo_12 (lv_at hl 0 rfl) ?_
  refine lv_bipush (v := 6) hx hb dX12_wayTo_14 (by decide) ?_
  refine lv_icmp_ge (tgt := 35) hx hb dX12_wayTo_16 (by decide) (fun zc => absurd zc (by decide)) (fun _ => ?_)
  refine lv_aload_n hx hb dX12_wayTo_19 rfl (lv_at hl 2 rfl) ?_
  refine va_get (D := (dC, dI)) (ci := 12) (v := .ref qSo) (C := RX12) (T := TX12) (N := 87) hx hb hts in_m_wayTo_12 hown hK hP 0 rfl rfl 58 (by decide) (hts (.fieldLink RX12 134 "LanternHouseModel" "soonest" "[I") (by decide +kernel)) (fun _ h9 => h9) haM_58 dX12_wayTo_20 ?_
  refine lv_iload hx hb dX12_wayTo_23 (lv_at hl 0 rfl) ?_
  refine lv_ldcw (v := 1000000) hx hb hown (hts (.constant RX12 351 (1000000)) (by decide +kernel)) dX12_wayTo_25 ?_
  refine z_iast hx hb hK hP hD hS 1 1 rfl rfl (show ¬ ((4 : Int32) < 0 ∨ 6 ≤ (4 : Int32).toNatClampNeg) from by decide) dX12_wayTo_28 (fun H locs g7 hg7 hP hD hS => ?_)
  have hP : va_P (dC, dI) vwCl [(aM, .inr (12, fsaM)), (qSo, .inl (cI, 6, .inl g7))] H := hP
  have hD : va_D A [(aM, .inr (12, fsaM)), (qSo, .inl (cI, 6, .inl g7))] := hD
  refine lv_iinc (v := 5) (lv' := [(5, .int 5), (4, .int x2), (0, .ref aM), (1, .int 0), (2, .int 0), (3, .int iHr)]) hx hb dX12_wayTo_29 hl (k := 0) rfl (by decide) (by decide) rfl (fun ls hl => ?_)
  refine lv_goto (tgt := 12) hx hb dX12_wayTo_32 (by decide) ?_
  refine lv_iload hx hb dX12_wayTo_12 (lv_at hl 0 rfl) ?_
  refine lv_bipush (v := 6) hx hb dX12_wayTo_14 (by decide) ?_
  refine lv_icmp_ge (tgt := 35) hx hb dX12_wayTo_16 (by decide) (fun zc => absurd zc (by decide)) (fun _ => ?_)
  refine lv_aload_n hx hb dX12_wayTo_19 rfl (lv_at hl 2 rfl) ?_
  refine va_get (D := (dC, dI)) (ci := 12) (v := .ref qSo) (C := RX12) (T := TX12) (N := 87) hx hb hts in_m_wayTo_12 hown hK hP 0 rfl rfl 58 (by decide) (hts (.fieldLink RX12 134 "LanternHouseModel" "soonest" "[I") (by decide +kernel)) (fun _ h9 => h9) haM_58 dX12_wayTo_20 ?_
  refine lv_iload hx hb dX12_wayTo_23 (lv_at hl 0 rfl) ?_
  refine lv_ldcw (v := 1000000) hx hb hown (hts (.constant RX12 351 (1000000)) (by decide +kernel)) dX12_wayTo_25 ?_
  refine z_iast hx hb hK hP hD hS 1 1 rfl rfl (show ¬ ((5 : Int32) < 0 ∨ 6 ≤ (5 : Int32).toNatClampNeg) from by decide) dX12_wayTo_28 (fun H locs g8 hg8 hP hD hS => ?_)
  have hP : va_P (dC, dI) vwCl [(aM, .inr (12, fsaM)), (qSo, .inl (cI, 6, .inl g8))] H := hP
  have hD : va_D A [(aM, .inr (12, fsaM)), (qSo, .inl (cI, 6, .inl g8))] := hD
  refine lv_iinc (v := 6) (lv' := [(5, .int 6), (4, .int x2), (0, .ref aM), (1, .int 0), (2, .int 0), (3, .int iHr)]) hx hb dX12_wayTo_29 hl (k := 0) rfl (by decide) (by decide) rfl (fun ls hl => ?_)
  refine lv_goto (tgt := 12) hx hb dX12_wayTo_32 (by decide) ?_
  refine lv_iload hx hb dX12_wayTo_12 (lv_at hl 0 rfl) ?_
  refine lv_bipush (v := 6) hx hb dX12_wayTo_14 (by decide) ?_
  refine lv_icmp_ge (tgt := 35) hx hb dX12_wayTo_16 (by decide) (fun _ => ?_) (fun zc => absurd zc (by decide))
  refine lv_aload_n hx hb dX12_wayTo_35 rfl (lv_at hl 2 rfl) ?_
  refine va_get (D := (dC, dI)) (ci := 12) (v := .ref qSo) (C := RX12) (T := TX12) (N := 87) hx hb hts in_m_wayTo_12 hown hK hP 0 rfl rfl 58 (by decide) (hts (.fieldLink RX12 134 "LanternHouseModel" "soonest" "[I") (by decide +kernel)) (fun _ h9 => h9) haM_58 dX12_wayTo_36 ?_
  refine lv_iload_n hx hb dX12_wayTo_39 rfl (lv_at hl 3 rfl) ?_
  refine lv_iload_n hx hb dX12_wayTo_40 rfl (lv_at hl 5 rfl) ?_
  refine z_iast hx hb hK hP hD hS 1 1 rfl rfl (show ¬ ((0 : Int32) < 0 ∨ 6 ≤ (0 : Int32).toNatClampNeg) from by decide) dX12_wayTo_41 (fun H locs g9 hg9 hP hD hS => ?_)
  have hP : va_P (dC, dI) vwCl [(aM, .inr (12, fsaM)), (qSo, .inl (cI, 6, .inl g9))] H := hP
  have hD : va_D A [(aM, .inr (12, fsaM)), (qSo, .inl (cI, 6, .inl g9))] := hD
  refine lv_iconst (v := 1) hx hb dX12_wayTo_42 (by decide) ?_
  refine lv_istore (lv' := [(5, .int 1), (4, .int x2), (0, .ref aM), (1, .int 0), (2, .int 0), (3, .int iHr)]) hx hb dX12_wayTo_43 hl (by decide) rfl (fun ls hl => ?_)
  refine lv_iload hx hb dX12_wayTo_45 (lv_at hl 0 rfl) ?_
  refine lv_if_eq (tgt := 154) hx hb dX12_wayTo_47 (by decide) (fun zc => absurd zc (by decide)) (fun _ => ?_)
  refine lv_iconst (v := 0) hx hb dX12_wayTo_50 (by decide) ?_
  refine lv_istore (lv' := [(5, .int 0), (4, .int x2), (0, .ref aM), (1, .int 0), (2, .int 0), (3, .int iHr)]) hx hb dX12_wayTo_51 hl (by decide) rfl (fun ls hl => ?_)
  refine lv_iconst (v := 0) hx hb dX12_wayTo_53 (by decide) ?_
  refine lv_istore (lv' := [(6, .int 0), (5, .int 0), (4, .int x2), (0, .ref aM), (1, .int 0), (2, .int 0), (3, .int iHr)]) hx hb dX12_wayTo_54 hl (by decide) rfl (fun ls hl => ?_)
  refine lv_iload hx hb dX12_wayTo_56 (lv_at hl 0 rfl) ?_
  refine lv_aload_n hx hb dX12_wayTo_58 rfl (lv_at hl 3 rfl) ?_
  refine va_get (D := (dC, dI)) (ci := 12) (v := .int 0) (C := RX12) (T := TX12) (N := 87) hx hb hts in_m_wayTo_12 hown hK hP 0 rfl rfl 44 (by decide) (hts (.fieldLink RX12 326 "LanternHouseModel" "trains" "I") (by decide +kernel)) (fun _ h9 => h9) haM_44 dX12_wayTo_59 ?_
  refine lv_icmp_ge (tgt := 151) hx hb dX12_wayTo_62 (by decide) (fun _ => ?_) (fun zc => absurd zc (by decide))
  refine lv_goto (tgt := 45) hx hb dX12_wayTo_151 (by decide) ?_
  refine lv_iload hx hb dX12_wayTo_45 (lv_at hl 1 rfl) ?_
  refine lv_if_eq (tgt := 154) hx hb dX12_wayTo_47 (by decide) (fun _ => ?_) (fun zc => absurd zc (by decide))
  refine lv_aload_n hx hb dX12_wayTo_154 rfl (lv_at hl 3 rfl) ?_
  refine va_get (D := (dC, dI)) (ci := 12) (v := .ref qSo) (C := RX12) (T := TX12) (N := 87) hx hb hts in_m_wayTo_12 hown hK hP 0 rfl rfl 58 (by decide) (hts (.fieldLink RX12 134 "LanternHouseModel" "soonest" "[I") (by decide +kernel)) (fun _ h9 => h9) haM_58 dX12_wayTo_155 ?_
  refine lv_iload_n hx hb dX12_wayTo_158 rfl (lv_at hl 5 rfl) ?_
  refine z_iald hx hb hK hP 1 1 rfl rfl (show ¬ ((0 : Int32) < 0 ∨ 6 ≤ (0 : Int32).toNatClampNeg) from by decide) (v := iHr) hg9 dX12_wayTo_159 ?_
  exact W.iret (v := iHr) hx hb hr (fun t ht hW => ⟨⟨iHr, (), rfl, rfl, trivial⟩, hS.F ht⟩) hS.2.2 dX12_wayTo_160

def zs_m_keeps : List Cond := .code yX12_keeps cX12_keeps 5 (some .boolean) :: (([.fieldLink RX12 361 "LanternHouseModel" "missed" "I", .fieldLink RX12 364 "LanternHouseModel" "instead" "I", .fieldLink RX12 320 "LanternHouseModel" "plates" "I", .fieldLink RX12 284 "LanternHouseModel" "shows" "I"] : List Cond) ++ (wsX120 ++ []))
theorem gd_m_keeps : (zs_m_keeps).all goodWord = true := by decide +kernel
theorem in_m_keeps_12 : ∀ w ∈ wsX120, w ∈ zs_m_keeps := fun w h => List.mem_cons_of_mem _ (List.mem_append_right _ (List.mem_append_left _ h))
abbrev ws_m_keeps (cB cI cJ cZ cQ : ClassId) (aM : Nat) (fsaM : List Value) : va_W := [(aM, .inr (12, fsaM))]
set_option maxHeartbeats 4000000 in
set_option maxRecDepth 100000 in
theorem m_keeps (l : Launch) (dC : Nat → ClassId) (dI : Nat → Nat → Nat) (cB cI cJ cZ cQ : ClassId) (aM : Nat) (fsaM : List Value) (sz : Nat) (hlaM : fsaM.length = 87) (haM_49 : fsaM[49]? = some (.int 0)) (haM_59 : fsaM[59]? = some (.int 0)) : Met l yX12_keeps zs_m_keeps ({ frames := 0, cells := 0, slots := 0, locals := 0 } : Room) (zPc [.ref aM, .int 0, .int 0] (dC, dI) (zTY cB cI cJ cZ cQ) (ws_m_keeps cB cI cJ cZ cQ aM fsaM) sz) (va_Qi (fun (zr : Int32) (_ : Unit) => zr = 1) (fun (_ : Unit) (t : State) => ∃ (gsaM : List Value), gsaM.length = 87 ∧ (∀ j : Nat, ¬ j ∈ ([69, 70] : List Nat) → gsaM[j]? = fsaM[j]?) ∧ gsaM[69]? = some (.int 0) ∧ gsaM[70]? = some (.int 0) ∧ va_P (dC, dI) vwCl [(aM, .inr (12, gsaM))] t.heap ∧ va_D (va_A (ws_m_keeps cB cI cJ cZ cQ aM fsaM) sz) [(aM, .inr (12, gsaM))]) (va_A (ws_m_keeps cB cI cJ cZ cQ aM fsaM) sz)) 0 0 (va_A (ws_m_keeps cB cI cJ cZ cQ aM fsaM) sz) := by
  refine Met.ofW (cc := cX12_keeps) (maxL := 5) (ret := (some .boolean)) (by decide) rfl ?_
  intro p e s m args below meth c s₁ B hml hv
  obtain ⟨rfl, hsz, hP0, hK, hO, hD0⟩ := hv
  have hx := B.exec
  have hb := B.bytes
  have hr := B.returns
  have hts := atoms_spec (ws := zs_m_keeps) B.pre
  have hown : s.vm.findClass RX12 = some m.cls := findClass_of_methodNamed B.named
  have hlocks := B.notSynchronized
  subst hsz
  have hD8 := hD0.self (sz := s.heap.size)
  generalize hAe : va_A (ws_m_keeps cB cI cJ cZ cQ aM fsaM) s.heap.size = A at hD8 ⊢
  have hA : ∀ q : Nat, s.heap.size ≤ q → A q := fun q h => by rw [← hAe]; exact Or.inr h
  have hS : va_S A s.heap s.heap [] := va_S.rf
  have hP : va_P (dC, dI) vwCl [(aM, .inr (12, fsaM))] s.heap := hP0
  have hD : va_D A [(aM, .inr (12, fsaM))] := hD8
  have hl := lv_entry ([.ref aM, .int 0, .int 0]) (n := 5) (Nat.le_of_ble_eq_true rfl)
  rw [lg_entry_eq]
  generalize (lg_sl ([.ref aM, .int 0, .int 0]) ++ List.replicate (5 - (lg_sl ([.ref aM, .int 0, .int 0])).length) Slot.unset).toArray = ls at hl ⊢
  have hl : lv_has ls 5 [(0, .ref aM), (1, .int 0), (2, .int 0)] := hl
  clear hP0 hD8 hD0
  refine zH0 (fun H hP hS => ?_) hP hS
  refine lv_aload_n hx hb dX12_keeps_0 rfl (lv_at hl 0 rfl) ?_
  refine lv_iconst (v := 0) hx hb dX12_keeps_1 (by decide) ?_
  refine va_put (D := (dC, dI)) (ci := 12) (v := .int 0) (ty := .int) (C := RX12) (T := TX12) (N := 87) hx hb hts in_m_keeps_12 tyX12 tyX12_ok nmX12 hown hK hP hD hS 0 rfl rfl 69 (by decide) (hts (.fieldLink RX12 361 "LanternHouseModel" "missed" "I") (by decide +kernel)) (fun _ h9 => h9) rfl (by decide +kernel) rfl rfl (by rw [hlaM]; decide) dX12_keeps_2 (fun H locs hP hD hS => ?_)
  have hP : va_P (dC, dI) vwCl [(aM, .inr (12, (List.set fsaM 69 (.int 0))))] H := hP
  have hD : va_D A [(aM, .inr (12, (List.set fsaM 69 (.int 0))))] := hD
  refine lv_aload_n hx hb dX12_keeps_5 rfl (lv_at hl 0 rfl) ?_
  refine lv_iconst (v := 0) hx hb dX12_keeps_6 (by decide) ?_
  refine va_put (D := (dC, dI)) (ci := 12) (v := .int 0) (ty := .int) (C := RX12) (T := TX12) (N := 87) hx hb hts in_m_keeps_12 tyX12 tyX12_ok nmX12 hown hK hP hD hS 0 rfl rfl 70 (by decide) (hts (.fieldLink RX12 364 "LanternHouseModel" "instead" "I") (by decide +kernel)) (fun _ h9 => h9) rfl (by decide +kernel) rfl rfl (by rw [(zset_len hlaM)]; decide) dX12_keeps_7 (fun H locs hP hD hS => ?_)
  have hP : va_P (dC, dI) vwCl [(aM, .inr (12, (List.set (List.set fsaM 69 (.int 0)) 70 (.int 0))))] H := hP
  have hD : va_D A [(aM, .inr (12, (List.set (List.set fsaM 69 (.int 0)) 70 (.int 0))))] := hD
  refine lv_iconst (v := 0) hx hb dX12_keeps_10 (by decide) ?_
  refine lv_istore_n (lv' := [(3, .int 0), (0, .ref aM), (1, .int 0), (2, .int 0)]) hx hb dX12_keeps_11 rfl hl (by decide) rfl (fun ls hl => ?_)
  refine lv_iload_n hx hb dX12_keeps_12 rfl (lv_at hl 0 rfl) ?_
  refine lv_aload_n hx hb dX12_keeps_13 rfl (lv_at hl 1 rfl) ?_
  refine va_get (D := (dC, dI)) (ci := 12) (v := .int 0) (C := RX12) (T := TX12) (N := 87) hx hb hts in_m_keeps_12 hown hK hP 0 rfl rfl 49 (by decide) (hts (.fieldLink RX12 320 "LanternHouseModel" "plates" "I") (by decide +kernel)) (fun _ h9 => h9) (zset_ne (by decide) (zset_ne (by decide) haM_49)) dX12_keeps_14 ?_
  refine lv_icmp_ge (tgt := 40) hx hb dX12_keeps_17 (by decide) (fun _ => ?_) (fun zc => absurd zc (by decide))
  refine lv_iconst (v := 0) hx hb dX12_keeps_40 (by decide) ?_
  refine lv_istore_n (lv' := [(3, .int 0), (0, .ref aM), (1, .int 0), (2, .int 0)]) hx hb dX12_keeps_41 rfl hl (by decide) rfl (fun ls hl => ?_)
  have loop3 : ∀ (n2 k1 : Nat), k1 + n2 = 28 → ∀ (H : Heap) (locs : List Loc) (ls : Array Slot), va_P (dC, dI) vwCl [(aM, .inr (12, (List.set (List.set fsaM 69 (.int 0)) 70 (.int 0))))] H → va_D A [(aM, .inr (12, (List.set (List.set fsaM 69 (.int 0)) 70 (.int 0))))] → va_S A s.heap H locs → lv_has ls 5 [(3, .int (nI k1)), (0, .ref aM), (1, .int 0), (2, .int 0)] → W p l e (headSpec zs_m_keeps ({ frames := 0, cells := 0, slots := 0, locals := 0 } : Room)).room s m ([.ref aM, .int 0, .int 0] : List Value).toArray below meth c H locs 0 0 (MQ below (va_Qi (fun (zr : Int32) (_ : Unit) => zr = 1) (fun (_ : Unit) (t : State) => ∃ (gsaM : List Value), gsaM.length = 87 ∧ (∀ j : Nat, ¬ j ∈ ([69, 70] : List Nat) → gsaM[j]? = fsaM[j]?) ∧ gsaM[69]? = some (.int 0) ∧ gsaM[70]? = some (.int 0) ∧ va_P (dC, dI) vwCl [(aM, .inr (12, gsaM))] t.heap ∧ va_D A [(aM, .inr (12, gsaM))]) A) ([.ref aM, .int 0, .int 0] : List Value).toArray s 0 0 A) (F0 m 42 ls []) := by
    intro n2
    induction n2 with
    | zero =>
      intro k1 hk H locs ls hP hD hS hl
      obtain rfl : k1 = 28 := by omega
      rw [show nI 28 = 28 from by decide] at hl
      refine lv_iload_n hx hb dX12_keeps_42 rfl (lv_at hl 0 rfl) ?_
      refine lv_bipush (v := 28) hx hb dX12_keeps_43 (by decide) ?_
      refine lv_icmp_ge (tgt := 105) hx hb dX12_keeps_45 (by decide) (fun _ => ?_) (fun zc => absurd zc (by decide))
      refine lv_iconst (v := 1) hx hb dX12_keeps_105 (by decide) ?_
      have hP9 : va_P (dC, dI) vwCl [(aM, .inr (12, (List.set (List.set fsaM 69 (.int 0)) 70 (.int 0))))] H := hP.sub [0] rfl
      have hD9 : va_D A [(aM, .inr (12, (List.set (List.set fsaM 69 (.int 0)) 70 (.int 0))))] := hD.sub [0] (by decide) rfl
      exact W.zret (v := 1) hx hb hr rfl (fun t ht hW => ⟨⟨1, (), rfl, rfl, ⟨(List.set (List.set fsaM 69 (.int 0)) 70 (.int 0)), (zset_len (zset_len hlaM)), (fun j hj => ((zfr (by decide) hj).trans ((zfr (by decide) hj).trans rfl))), (zset_ne (by decide) (zset_eq (by rw [hlaM]; decide))), (zset_eq (by rw [(zset_len hlaM)]; decide)), by rw [ht]; exact hP9, hD9⟩⟩, hS.F ht⟩) hS.2.2 dX12_keeps_106
    | succ n2 ih =>
      intro k1 hk H locs ls hP hD hS hl
      refine lv_iload_n hx hb dX12_keeps_42 rfl (lv_at hl 0 rfl) ?_
      refine lv_bipush (v := 28) hx hb dX12_keeps_43 (by decide) ?_
      refine lv_icmp_ge (tgt := 105) hx hb dX12_keeps_45 (by decide) (fun zc => absurd zc (by rw [show (28 : Int32) = nI 28 from by decide]; exact nI_ge (by omega) (by decide))) (fun _ => ?_)
      refine lv_iconst (v := 0) hx hb dX12_keeps_48 (by decide) ?_
      refine lv_istore (lv' := [(4, .int 0), (3, .int (nI k1)), (0, .ref aM), (1, .int 0), (2, .int 0)]) hx hb dX12_keeps_49 hl (by decide) rfl (fun ls hl => ?_)
      refine lv_iload hx hb dX12_keeps_51 (lv_at hl 0 rfl) ?_
      refine lv_aload_n hx hb dX12_keeps_53 rfl (lv_at hl 2 rfl) ?_
      refine va_get (D := (dC, dI)) (ci := 12) (v := .int 0) (C := RX12) (T := TX12) (N := 87) hx hb hts in_m_keeps_12 hown hK hP 0 rfl rfl 59 (by decide) (hts (.fieldLink RX12 284 "LanternHouseModel" "shows" "I") (by decide +kernel)) (fun _ h9 => h9) (zset_ne (by decide) (zset_ne (by decide) haM_59)) dX12_keeps_54 ?_
      refine lv_icmp_ge (tgt := 99) hx hb dX12_keeps_57 (by decide) (fun _ => ?_) (fun zc => absurd zc (by decide))
      refine lv_iinc (v := (nI (k1 + 1))) (lv' := [(3, .int (nI (k1 + 1))), (4, .int 0), (0, .ref aM), (1, .int 0), (2, .int 0)]) hx hb dX12_keeps_99 hl (k := 1) rfl (nI_1 _) (by decide) rfl (fun ls hl => ?_)
      refine lv_goto (tgt := 42) hx hb dX12_keeps_102 (by decide) ?_
      exact ih (k1 + 1) (by omega) _ _ _ hP hD hS (lv_sub hl [0, 2, 3, 4] rfl)
  exact loop3 28 0 (by omega) _ _ _ hP hD hS (by rw [nI_0]; exact lv_sub hl [0, 1, 2, 3] rfl)

def zs_m_worthOf : List Cond := .code yX12_worthOf cX12_worthOf 4 (some .int) :: (([.fieldLink RX12 284 "LanternHouseModel" "shows" "I"] : List Cond) ++ (wsX120 ++ []))
theorem gd_m_worthOf : (zs_m_worthOf).all goodWord = true := by decide +kernel
theorem in_m_worthOf_12 : ∀ w ∈ wsX120, w ∈ zs_m_worthOf := fun w h => List.mem_cons_of_mem _ (List.mem_append_right _ (List.mem_append_left _ h))
abbrev ws_m_worthOf (cB cI cJ cZ cQ : ClassId) (aM : Nat) (fsaM : List Value) : va_W := [(aM, .inr (12, fsaM))]
set_option maxHeartbeats 4000000 in
set_option maxRecDepth 100000 in
theorem m_worthOf (l : Launch) (dC : Nat → ClassId) (dI : Nat → Nat → Nat) (cB cI cJ cZ cQ : ClassId) (aM : Nat) (fsaM : List Value) (sz : Nat) (hlaM : fsaM.length = 87) (haM_59 : fsaM[59]? = some (.int 0)) : Met l yX12_worthOf zs_m_worthOf ({ frames := 0, cells := 0, slots := 0, locals := 0 } : Room) (zPc [.ref aM, .int 0] (dC, dI) (zTY cB cI cJ cZ cQ) (ws_m_worthOf cB cI cJ cZ cQ aM fsaM) sz) (va_Qi (fun (zr : Int32) (_ : Unit) => zr = 0) (fun (_ : Unit) (t : State) => ∃ (gsaM : List Value), gsaM.length = 87 ∧ (∀ j : Nat, ¬ j ∈ ([] : List Nat) → gsaM[j]? = fsaM[j]?) ∧ va_P (dC, dI) vwCl [(aM, .inr (12, gsaM))] t.heap ∧ va_D (va_A (ws_m_worthOf cB cI cJ cZ cQ aM fsaM) sz) [(aM, .inr (12, gsaM))]) (va_A (ws_m_worthOf cB cI cJ cZ cQ aM fsaM) sz)) 0 0 (va_A (ws_m_worthOf cB cI cJ cZ cQ aM fsaM) sz) := by
  refine Met.ofW (cc := cX12_worthOf) (maxL := 4) (ret := (some .int)) (by decide) rfl ?_
  intro p e s m args below meth c s₁ B hml hv
  obtain ⟨rfl, hsz, hP0, hK, hO, hD0⟩ := hv
  have hx := B.exec
  have hb := B.bytes
  have hr := B.returns
  have hts := atoms_spec (ws := zs_m_worthOf) B.pre
  have hown : s.vm.findClass RX12 = some m.cls := findClass_of_methodNamed B.named
  have hlocks := B.notSynchronized
  subst hsz
  have hD8 := hD0.self (sz := s.heap.size)
  generalize hAe : va_A (ws_m_worthOf cB cI cJ cZ cQ aM fsaM) s.heap.size = A at hD8 ⊢
  have hA : ∀ q : Nat, s.heap.size ≤ q → A q := fun q h => by rw [← hAe]; exact Or.inr h
  have hS : va_S A s.heap s.heap [] := va_S.rf
  have hP : va_P (dC, dI) vwCl [(aM, .inr (12, fsaM))] s.heap := hP0
  have hD : va_D A [(aM, .inr (12, fsaM))] := hD8
  have hl := lv_entry ([.ref aM, .int 0]) (n := 4) (Nat.le_of_ble_eq_true rfl)
  rw [lg_entry_eq]
  generalize (lg_sl ([.ref aM, .int 0]) ++ List.replicate (4 - (lg_sl ([.ref aM, .int 0])).length) Slot.unset).toArray = ls at hl ⊢
  have hl : lv_has ls 4 [(0, .ref aM), (1, .int 0)] := hl
  clear hP0 hD8 hD0
  refine zH0 (fun H hP hS => ?_) hP hS
  refine lv_iconst (v := 0) hx hb dX12_worthOf_0 (by decide) ?_
  refine lv_istore_n (lv' := [(2, .int 0), (0, .ref aM), (1, .int 0)]) hx hb dX12_worthOf_1 rfl hl (by decide) rfl (fun ls hl => ?_)
  refine lv_iconst (v := 0) hx hb dX12_worthOf_2 (by decide) ?_
  refine lv_istore_n (lv' := [(3, .int 0), (2, .int 0), (0, .ref aM), (1, .int 0)]) hx hb dX12_worthOf_3 rfl hl (by decide) rfl (fun ls hl => ?_)
  refine lv_iload_n hx hb dX12_worthOf_4 rfl (lv_at hl 0 rfl) ?_
  refine lv_aload_n hx hb dX12_worthOf_5 rfl (lv_at hl 2 rfl) ?_
  refine va_get (D := (dC, dI)) (ci := 12) (v := .int 0) (C := RX12) (T := TX12) (N := 87) hx hb hts in_m_worthOf_12 hown hK hP 0 rfl rfl 59 (by decide) (hts (.fieldLink RX12 284 "LanternHouseModel" "shows" "I") (by decide +kernel)) (fun _ h9 => h9) haM_59 dX12_worthOf_6 ?_
  refine lv_icmp_ge (tgt := 36) hx hb dX12_worthOf_9 (by decide) (fun _ => ?_) (fun zc => absurd zc (by decide))
  refine lv_iload_n hx hb dX12_worthOf_36 rfl (lv_at hl 1 rfl) ?_
  have hP9 : va_P (dC, dI) vwCl [(aM, .inr (12, fsaM))] H := hP.sub [0] rfl
  have hD9 : va_D A [(aM, .inr (12, fsaM))] := hD.sub [0] (by decide) rfl
  exact W.iret (v := 0) hx hb hr (fun t ht hW => ⟨⟨0, (), rfl, rfl, ⟨fsaM, hlaM, (fun j hj => rfl), by rw [ht]; exact hP9, hD9⟩⟩, hS.F ht⟩) hS.2.2 dX12_worthOf_37

def zs_m_makes : List Cond := .code yX12_makes cX12_makes 8 none :: (([.fieldLink RX12 284 "LanternHouseModel" "shows" "I", .fieldLink RX12 361 "LanternHouseModel" "missed" "I", .fieldLink RX12 364 "LanternHouseModel" "instead" "I", .fieldLink RX12 385 "LanternHouseModel" "made" "I", .fieldLink RX12 287 "LanternHouseModel" "isMade" "Z", .fieldLink RX12 388 "LanternHouseModel" "madeMissed" "I", .fieldLink RX12 391 "LanternHouseModel" "madeInstead" "I", .fieldLink RX12 173 "LanternHouseModel" "madeGets" "[I", .fieldLink RX12 152 "LanternHouseModel" "gets" "[I", .fieldLink RX12 176 "LanternHouseModel" "madeAs" "[I", .fieldLink RX12 155 "LanternHouseModel" "getsAs" "[I", .fieldLink RX12 179 "LanternHouseModel" "madeFrom" "[I", .fieldLink RX12 158 "LanternHouseModel" "getsFrom" "[I", .fieldLink RX12 182 "LanternHouseModel" "madeAt" "[I", .fieldLink RX12 161 "LanternHouseModel" "getsAt" "[I", .methodLink RX12 355 yX12_knows, .instanceMethod yX12_knows, .selects RX12 yX12_knows yX12_knows, .initialized RX12, .methodLink RX12 375 yX12_keeps, .instanceMethod yX12_keeps, .selects RX12 yX12_keeps yX12_keeps] : List Cond) ++ (zs_m_knows ++ (zs_m_keeps ++ (wsX120 ++ []))))
theorem gd_m_makes : (zs_m_makes).all goodWord = true := by decide +kernel
theorem in_m_makes_12 : ∀ w ∈ wsX120, w ∈ zs_m_makes := fun w h => List.mem_cons_of_mem _ (List.mem_append_right _ (List.mem_append_right _ (List.mem_append_right _ (List.mem_append_left _ h))))
theorem g_m_makes_m_knows_355 : GoodIn zs_m_makes (wsV RX12 355 RX12 yX12_knows zs_m_knows) := goodIn_app (goodIn_of _ (by decide +kernel)) (goodIn_sub (fun w h => List.mem_cons_of_mem _ (List.mem_append_right _ (List.mem_append_left _ h))) gd_m_knows)
theorem g_m_makes_m_keeps_375 : GoodIn zs_m_makes (wsV RX12 375 RX12 yX12_keeps zs_m_keeps) := goodIn_app (goodIn_of _ (by decide +kernel)) (goodIn_sub (fun w h => List.mem_cons_of_mem _ (List.mem_append_right _ (List.mem_append_right _ (List.mem_append_left _ h)))) gd_m_keeps)
abbrev ws_m_makes (cB cI cJ cZ cQ : ClassId) (aM qSt qgets qgetsAs qgetsFrom qgetsAt qmadeGets qmadeAs qmadeFrom qmadeAt : Nat) (fSt : Nat → Int32) (fgets : Nat → Int32) (fgetsAs : Nat → Int32) (fgetsFrom : Nat → Int32) (fgetsAt : Nat → Int32) (fmadeGets : Nat → Int32) (fmadeAs : Nat → Int32) (fmadeFrom : Nat → Int32) (fmadeAt : Nat → Int32) (fsaM : List Value) : va_W := [(aM, .inr (12, fsaM)), (qSt, .inl (cZ, 656, .inl fSt)), (qgets, .inl (cI, 64, .inl fgets)), (qgetsAs, .inl (cI, 64, .inl fgetsAs)), (qgetsFrom, .inl (cI, 64, .inl fgetsFrom)), (qgetsAt, .inl (cI, 64, .inl fgetsAt)), (qmadeGets, .inl (cI, 64, .inl fmadeGets)), (qmadeAs, .inl (cI, 64, .inl fmadeAs)), (qmadeFrom, .inl (cI, 64, .inl fmadeFrom)), (qmadeAt, .inl (cI, 64, .inl fmadeAt))]
set_option maxHeartbeats 4000000 in
set_option maxRecDepth 100000 in
theorem m_makes (l : Launch) (dC : Nat → ClassId) (dI : Nat → Nat → Nat) (cB cI cJ cZ cQ : ClassId) (aM qSt qgets qgetsAs qgetsFrom qgetsAt qmadeGets qmadeAs qmadeFrom qmadeAt : Nat) (fSt : Nat → Int32) (fgets : Nat → Int32) (fgetsAs : Nat → Int32) (fgetsFrom : Nat → Int32) (fgetsAt : Nat → Int32) (fmadeGets : Nat → Int32) (fmadeAs : Nat → Int32) (fmadeFrom : Nat → Int32) (fmadeAt : Nat → Int32) (fsaM : List Value) (sz : Nat) (hlaM : fsaM.length = 87) (haM_49 : fsaM[49]? = some (.int 0)) (haM_56 : fsaM[56]? = some (.int (-1))) (haM_57 : fsaM[57]? = some (.ref qSt)) (haM_59 : fsaM[59]? = some (.int 0)) (haM_65 : fsaM[65]? = some (.ref qgets)) (haM_66 : fsaM[66]? = some (.ref qgetsAs)) (haM_67 : fsaM[67]? = some (.ref qgetsFrom)) (haM_68 : fsaM[68]? = some (.ref qgetsAt)) (haM_78 : fsaM[78]? = some (.ref qmadeGets)) (haM_79 : fsaM[79]? = some (.ref qmadeAs)) (haM_80 : fsaM[80]? = some (.ref qmadeFrom)) (haM_81 : fsaM[81]? = some (.ref qmadeAt)) : Met l yX12_makes zs_m_makes ({ frames := 1, cells := 0, slots := 0, locals := 24 } : Room) (zPc [.ref aM, .int 0, .int 0] (dC, dI) (zTY cB cI cJ cZ cQ) (ws_m_makes cB cI cJ cZ cQ aM qSt qgets qgetsAs qgetsFrom qgetsAt qmadeGets qmadeAs qmadeFrom qmadeAt fSt fgets fgetsAs fgetsFrom fgetsAt fmadeGets fmadeAs fmadeFrom fmadeAt fsaM) sz) (va_Qv (fun (_ : Unit) => True) (fun (_ : Unit) (t : State) => ∃ (gsaM : List Value), gsaM.length = 87 ∧ (∀ j : Nat, ¬ j ∈ ([56, 69, 70, 75, 74, 76, 77] : List Nat) → gsaM[j]? = fsaM[j]?) ∧ gsaM[75]? = some (.int 0) ∧ va_P (dC, dI) vwCl [(aM, .inr (12, gsaM))] t.heap ∧ va_D (va_A (ws_m_makes cB cI cJ cZ cQ aM qSt qgets qgetsAs qgetsFrom qgetsAt qmadeGets qmadeAs qmadeFrom qmadeAt fSt fgets fgetsAs fgetsFrom fgetsAt fmadeGets fmadeAs fmadeFrom fmadeAt fsaM) sz) [(aM, .inr (12, gsaM))]) (va_A (ws_m_makes cB cI cJ cZ cQ aM qSt qgets qgetsAs qgetsFrom qgetsAt qmadeGets qmadeAs qmadeFrom qmadeAt fSt fgets fgetsAs fgetsFrom fgetsAt fmadeGets fmadeAs fmadeFrom fmadeAt fsaM) sz)) 0 0 (va_A (ws_m_makes cB cI cJ cZ cQ aM qSt qgets qgetsAs qgetsFrom qgetsAt qmadeGets qmadeAs qmadeFrom qmadeAt fSt fgets fgetsAs fgetsFrom fgetsAt fmadeGets fmadeAs fmadeFrom fmadeAt fsaM) sz) := by
  refine Met.ofW (cc := cX12_makes) (maxL := 8) (ret := none) (by decide) rfl ?_
  intro p e s m args below meth c s₁ B hml hv
  obtain ⟨rfl, hsz, hP0, hK, hO, hD0⟩ := hv
  have hx := B.exec
  have hb := B.bytes
  have hr := B.returns
  have hts := atoms_spec (ws := zs_m_makes) B.pre
  have hown : s.vm.findClass RX12 = some m.cls := findClass_of_methodNamed B.named
  have hlocks := B.notSynchronized
  subst hsz
  have hD8 := hD0.self (sz := s.heap.size)
  generalize hAe : va_A (ws_m_makes cB cI cJ cZ cQ aM qSt qgets qgetsAs qgetsFrom qgetsAt qmadeGets qmadeAs qmadeFrom qmadeAt fSt fgets fgetsAs fgetsFrom fgetsAt fmadeGets fmadeAs fmadeFrom fmadeAt fsaM) s.heap.size = A at hD8 ⊢
  have hA : ∀ q : Nat, s.heap.size ≤ q → A q := fun q h => by rw [← hAe]; exact Or.inr h
  have hS : va_S A s.heap s.heap [] := va_S.rf
  have hP : va_P (dC, dI) vwCl [(aM, .inr (12, fsaM)), (qSt, .inl (cZ, 656, .inl fSt)), (qgets, .inl (cI, 64, .inl fgets)), (qgetsAs, .inl (cI, 64, .inl fgetsAs)), (qgetsFrom, .inl (cI, 64, .inl fgetsFrom)), (qgetsAt, .inl (cI, 64, .inl fgetsAt)), (qmadeGets, .inl (cI, 64, .inl fmadeGets)), (qmadeAs, .inl (cI, 64, .inl fmadeAs)), (qmadeFrom, .inl (cI, 64, .inl fmadeFrom)), (qmadeAt, .inl (cI, 64, .inl fmadeAt))] s.heap := hP0
  have hD : va_D A [(aM, .inr (12, fsaM)), (qSt, .inl (cZ, 656, .inl fSt)), (qgets, .inl (cI, 64, .inl fgets)), (qgetsAs, .inl (cI, 64, .inl fgetsAs)), (qgetsFrom, .inl (cI, 64, .inl fgetsFrom)), (qgetsAt, .inl (cI, 64, .inl fgetsAt)), (qmadeGets, .inl (cI, 64, .inl fmadeGets)), (qmadeAs, .inl (cI, 64, .inl fmadeAs)), (qmadeFrom, .inl (cI, 64, .inl fmadeFrom)), (qmadeAt, .inl (cI, 64, .inl fmadeAt))] := hD8
  have hl := lv_entry ([.ref aM, .int 0, .int 0]) (n := 8) (Nat.le_of_ble_eq_true rfl)
  rw [lg_entry_eq]
  generalize (lg_sl ([.ref aM, .int 0, .int 0]) ++ List.replicate (8 - (lg_sl ([.ref aM, .int 0, .int 0])).length) Slot.unset).toArray = ls at hl ⊢
  have hl : lv_has ls 8 [(0, .ref aM), (1, .int 0), (2, .int 0)] := hl
  clear hP0 hD8 hD0
  refine zH0 (fun H hP hS => ?_) hP hS
  refine lv_aload_n hx hb dX12_makes_0 rfl (lv_at hl 0 rfl) ?_
  refine lv_iload_n hx hb dX12_makes_1 rfl (lv_at hl 1 rfl) ?_
  have hPc : va_P (dC, dI) vwCl (ws_m_knows cB cI cJ cZ cQ aM qSt fSt fsaM) H := hP.sub [0, 1] rfl
  have hDc := hD.sub (ws' := (ws_m_knows cB cI cJ cZ cQ aM qSt fSt fsaM)) [0, 1] (by decide) rfl
  have hFc := va_free (wc := (ws_m_knows cB cI cJ cZ cQ aM qSt fSt fsaM)) hD hS hA [0, 1] rfl
  refine va_callv (va_runV (As := [.int 0]) (rest := []) ⟨hx, hb, hml, hown, hts⟩ (m_knows l dC dI cB cI cJ cZ cQ aM qSt fSt fsaM H.size hlaM haM_56 haM_57) (cwV 1 hts g_m_makes_m_knows_355 rfl rfl rfl (by decide +kernel) ⟨Nat.le_of_ble_eq_true rfl, Nat.le_of_ble_eq_true rfl⟩) ⟨zFB, va_recv hK hP (ci := 12) (q0 := 0) rfl rfl, fun U hU hW => zUp hU hW hPc hK hO hDc⟩ rfl rfl hl.1 rfl (lv_room (Nat.le_of_ble_eq_true rfl)) dX12_makes_2 ⟨Nat.le_of_ble_eq_true rfl, Nat.le_of_ble_eq_true rfl⟩) hS (fun q _ h => hFc q h) hFc (fun u t H1 locs ht hvm hw2 hB hz1 hk1 hS => ?_)
  obtain ⟨gs3, hgl4, hgf5, hP1, hD1⟩ := hB
  rw [ht] at hP1
  obtain ⟨hP, hD⟩ := va_join (wr := [(qgets, .inl (cI, 64, .inl fgets)), (qgetsAs, .inl (cI, 64, .inl fgetsAs)), (qgetsFrom, .inl (cI, 64, .inl fgetsFrom)), (qgetsAt, .inl (cI, 64, .inl fgetsAt)), (qmadeGets, .inl (cI, 64, .inl fmadeGets)), (qmadeAs, .inl (cI, 64, .inl fmadeAs)), (qmadeFrom, .inl (cI, 64, .inl fmadeFrom)), (qmadeAt, .inl (cI, 64, .inl fmadeAt))]) (w1 := [(aM, .inr (12, gs3))]) hP hD [0, 1] [2, 3, 4, 5, 6, 7, 8, 9] rfl rfl (by decide) (by decide) hk1 hFc hP1 hD1
  generalize H1 = H at hP hS ⊢
  have hP : va_P (dC, dI) vwCl [(qgets, .inl (cI, 64, .inl fgets)), (qgetsAs, .inl (cI, 64, .inl fgetsAs)), (qgetsFrom, .inl (cI, 64, .inl fgetsFrom)), (qgetsAt, .inl (cI, 64, .inl fgetsAt)), (qmadeGets, .inl (cI, 64, .inl fmadeGets)), (qmadeAs, .inl (cI, 64, .inl fmadeAs)), (qmadeFrom, .inl (cI, 64, .inl fmadeFrom)), (qmadeAt, .inl (cI, 64, .inl fmadeAt)), (aM, .inr (12, gs3))] H := hP
  have hD : va_D A [(qgets, .inl (cI, 64, .inl fgets)), (qgetsAs, .inl (cI, 64, .inl fgetsAs)), (qgetsFrom, .inl (cI, 64, .inl fgetsFrom)), (qgetsAt, .inl (cI, 64, .inl fgetsAt)), (qmadeGets, .inl (cI, 64, .inl fmadeGets)), (qmadeAs, .inl (cI, 64, .inl fmadeAs)), (qmadeFrom, .inl (cI, 64, .inl fmadeFrom)), (qmadeAt, .inl (cI, 64, .inl fmadeAt)), (aM, .inr (12, gs3))] := hD
  refine lv_iconst (v := (-1)) hx hb dX12_makes_5 (by decide) ?_
  refine lv_istore_n (lv' := [(3, .int (-1)), (0, .ref aM), (1, .int 0), (2, .int 0)]) hx hb dX12_makes_6 rfl hl (by decide) rfl (fun ls hl => ?_)
  refine lv_iconst (v := 0) hx hb dX12_makes_7 (by decide) ?_
  refine lv_istore (lv' := [(4, .int 0), (3, .int (-1)), (0, .ref aM), (1, .int 0), (2, .int 0)]) hx hb dX12_makes_8 hl (by decide) rfl (fun ls hl => ?_)
  refine lv_iconst (v := 0) hx hb dX12_makes_10 (by decide) ?_
  refine lv_istore (lv' := [(5, .int 0), (4, .int 0), (3, .int (-1)), (0, .ref aM), (1, .int 0), (2, .int 0)]) hx hb dX12_makes_11 hl (by decide) rfl (fun ls hl => ?_)
  refine lv_iconst (v := 0) hx hb dX12_makes_13 (by decide) ?_
  refine lv_istore (lv' := [(6, .int 0), (5, .int 0), (4, .int 0), (3, .int (-1)), (0, .ref aM), (1, .int 0), (2, .int 0)]) hx hb dX12_makes_14 hl (by decide) rfl (fun ls hl => ?_)
  refine lv_iload hx hb dX12_makes_16 (lv_at hl 0 rfl) ?_
  refine lv_iconst (v := 1) hx hb dX12_makes_18 (by decide) ?_
  refine lv_aload_n hx hb dX12_makes_19 rfl (lv_at hl 4 rfl) ?_
  refine va_get (D := (dC, dI)) (ci := 12) (v := .int 0) (C := RX12) (T := TX12) (N := 87) hx hb hts in_m_makes_12 hown hK hP 8 rfl rfl 59 (by decide) (hts (.fieldLink RX12 284 "LanternHouseModel" "shows" "I") (by decide +kernel)) (fun _ h9 => h9) ((hgf5 59 (by decide)).trans haM_59) dX12_makes_20 ?_
  refine lv_ishl hx hb dX12_makes_23 ?_
  refine lv_topi (fun x6 ex6 => ?_)
  obtain rfl : x6 = 1 := ex6.trans (by decide)
  refine lv_icmp_ge (tgt := 103) hx hb dX12_makes_24 (by decide) (fun zc => absurd zc (by decide)) (fun _ => ?_)
  refine lv_iload_n hx hb dX12_makes_27 rfl (lv_at hl 3 rfl) ?_
  refine lv_iconst (v := (-1)) hx hb dX12_makes_28 (by decide) ?_
  refine lv_icmp_eq (tgt := 46) hx hb dX12_makes_29 (by decide) (fun _ => ?_) (fun zc => absurd zc (by decide))
  refine lv_aload_n hx hb dX12_makes_46 rfl (lv_at hl 4 rfl) ?_
  refine lv_iload hx hb dX12_makes_47 (lv_at hl 0 rfl) ?_
  refine lv_iload_n hx hb dX12_makes_49 rfl (lv_at hl 5 rfl) ?_
  have hPc : va_P (dC, dI) vwCl (ws_m_keeps cB cI cJ cZ cQ aM gs3) H := hP.sub [8] rfl
  have hDc := hD.sub (ws' := (ws_m_keeps cB cI cJ cZ cQ aM gs3)) [8] (by decide) rfl
  have hFc := va_free (wc := (ws_m_keeps cB cI cJ cZ cQ aM gs3)) hD hS hA [8] rfl
  refine va_calli (va_runV (As := [.int 0, .int 0]) (rest := []) ⟨hx, hb, hml, hown, hts⟩ (m_keeps l dC dI cB cI cJ cZ cQ aM gs3 H.size hgl4 ((hgf5 49 (by decide)).trans haM_49) ((hgf5 59 (by decide)).trans haM_59)) (cwV 2 hts g_m_makes_m_keeps_375 rfl rfl rfl (by decide +kernel) ⟨Nat.le_of_ble_eq_true rfl, Nat.le_of_ble_eq_true rfl⟩) ⟨zFB, va_recv hK hP (ci := 12) (q0 := 8) rfl rfl, fun U hU hW => zUp hU hW hPc hK hO hDc⟩ rfl rfl hl.1 rfl (lv_room (Nat.le_of_ble_eq_true rfl)) dX12_makes_50 ⟨Nat.le_of_ble_eq_true rfl, Nat.le_of_ble_eq_true rfl⟩) hS (fun q _ h => hFc q h) hFc (fun r7 u t H1 locs ht hvm hw8 hB hz1 hk1 hS => ?_)
  obtain ⟨gs9, hgl10, hgf11, hgk12, hgk13, hP1, hD1⟩ := hB
  rw [ht] at hP1
  obtain ⟨hP, hD⟩ := va_join (wr := [(qgets, .inl (cI, 64, .inl fgets)), (qgetsAs, .inl (cI, 64, .inl fgetsAs)), (qgetsFrom, .inl (cI, 64, .inl fgetsFrom)), (qgetsAt, .inl (cI, 64, .inl fgetsAt)), (qmadeGets, .inl (cI, 64, .inl fmadeGets)), (qmadeAs, .inl (cI, 64, .inl fmadeAs)), (qmadeFrom, .inl (cI, 64, .inl fmadeFrom)), (qmadeAt, .inl (cI, 64, .inl fmadeAt))]) (w1 := [(aM, .inr (12, gs9))]) hP hD [8] [0, 1, 2, 3, 4, 5, 6, 7] rfl rfl (by decide) (by decide) hk1 hFc hP1 hD1
  generalize H1 = H at hP hS ⊢
  have hP : va_P (dC, dI) vwCl [(qgets, .inl (cI, 64, .inl fgets)), (qgetsAs, .inl (cI, 64, .inl fgetsAs)), (qgetsFrom, .inl (cI, 64, .inl fgetsFrom)), (qgetsAt, .inl (cI, 64, .inl fgetsAt)), (qmadeGets, .inl (cI, 64, .inl fmadeGets)), (qmadeAs, .inl (cI, 64, .inl fmadeAs)), (qmadeFrom, .inl (cI, 64, .inl fmadeFrom)), (qmadeAt, .inl (cI, 64, .inl fmadeAt)), (aM, .inr (12, gs9))] H := hP
  have hD : va_D A [(qgets, .inl (cI, 64, .inl fgets)), (qgetsAs, .inl (cI, 64, .inl fgetsAs)), (qgetsFrom, .inl (cI, 64, .inl fgetsFrom)), (qgetsAt, .inl (cI, 64, .inl fgetsAt)), (qmadeGets, .inl (cI, 64, .inl fmadeGets)), (qmadeAs, .inl (cI, 64, .inl fmadeAs)), (qmadeFrom, .inl (cI, 64, .inl fmadeFrom)), (qmadeAt, .inl (cI, 64, .inl fmadeAt)), (aM, .inr (12, gs9))] := hD
  obtain rfl : r7 = 1 := hw8
  refine lv_if_ne (tgt := 59) hx hb dX12_makes_53 (by decide) (fun _ => ?_) (fun zc => absurd zc (by decide))
  refine lv_iload_n hx hb dX12_makes_59 rfl (lv_at hl 3 rfl) ?_
  refine lv_iconst (v := (-1)) hx hb dX12_makes_60 (by decide) ?_
  refine lv_icmp_eq (tgt := 82) hx hb dX12_makes_61 (by decide) (fun _ => ?_) (fun zc => absurd zc (by decide))
  refine lv_iload hx hb dX12_makes_82 (lv_at hl 0 rfl) ?_
  refine lv_istore_n (lv' := [(3, .int 0), (6, .int 0), (5, .int 0), (4, .int 0), (0, .ref aM), (1, .int 0), (2, .int 0)]) hx hb dX12_makes_84 rfl hl (by decide) rfl (fun ls hl => ?_)
  refine lv_aload_n hx hb dX12_makes_85 rfl (lv_at hl 4 rfl) ?_
  refine va_get (D := (dC, dI)) (ci := 12) (v := .int 0) (C := RX12) (T := TX12) (N := 87) hx hb hts in_m_makes_12 hown hK hP 8 rfl rfl 69 (by decide) (hts (.fieldLink RX12 361 "LanternHouseModel" "missed" "I") (by decide +kernel)) (fun _ h9 => h9) hgk12 dX12_makes_86 ?_
  refine lv_istore (lv' := [(4, .int 0), (3, .int 0), (6, .int 0), (5, .int 0), (0, .ref aM), (1, .int 0), (2, .int 0)]) hx hb dX12_makes_89 hl (by decide) rfl (fun ls hl => ?_)
  refine lv_aload_n hx hb dX12_makes_91 rfl (lv_at hl 4 rfl) ?_
  refine va_get (D := (dC, dI)) (ci := 12) (v := .int 0) (C := RX12) (T := TX12) (N := 87) hx hb hts in_m_makes_12 hown hK hP 8 rfl rfl 70 (by decide) (hts (.fieldLink RX12 364 "LanternHouseModel" "instead" "I") (by decide +kernel)) (fun _ h9 => h9) hgk13 dX12_makes_92 ?_
  refine lv_istore (lv' := [(5, .int 0), (4, .int 0), (3, .int 0), (6, .int 0), (0, .ref aM), (1, .int 0), (2, .int 0)]) hx hb dX12_makes_95 hl (by decide) rfl (fun ls hl => ?_)
  refine lv_iinc (v := 1) (lv' := [(6, .int 1), (5, .int 0), (4, .int 0), (3, .int 0), (0, .ref aM), (1, .int 0), (2, .int 0)]) hx hb dX12_makes_97 hl (k := 3) rfl (by decide) (by decide) rfl (fun ls hl => ?_)
  refine lv_goto (tgt := 16) hx hb dX12_makes_100 (by decide) ?_
  refine lv_iload hx hb dX12_makes_16 (lv_at hl 0 rfl) ?_
  refine lv_iconst (v := 1) hx hb dX12_makes_18 (by decide) ?_
  refine lv_aload_n hx hb dX12_makes_19 rfl (lv_at hl 4 rfl) ?_
  refine va_get (D := (dC, dI)) (ci := 12) (v := .int 0) (C := RX12) (T := TX12) (N := 87) hx hb hts in_m_makes_12 hown hK hP 8 rfl rfl 59 (by decide) (hts (.fieldLink RX12 284 "LanternHouseModel" "shows" "I") (by decide +kernel)) (fun _ h9 => h9) ((hgf11 59 (by decide)).trans ((hgf5 59 (by decide)).trans haM_59)) dX12_makes_20 ?_
  refine lv_ishl hx hb dX12_makes_23 ?_
  refine lv_topi (fun x14 ex14 => ?_)
  obtain rfl : x14 = 1 := ex14.trans (by decide)
  refine lv_icmp_ge (tgt := 103) hx hb dX12_makes_24 (by decide) (fun _ => ?_) (fun zc => absurd zc (by decide))
  refine lv_aload_n hx hb dX12_makes_103 rfl (lv_at hl 4 rfl) ?_
  refine lv_iload_n hx hb dX12_makes_104 rfl (lv_at hl 3 rfl) ?_
  refine lv_iload_n hx hb dX12_makes_105 rfl (lv_at hl 5 rfl) ?_
  have hPc : va_P (dC, dI) vwCl (ws_m_keeps cB cI cJ cZ cQ aM gs9) H := hP.sub [8] rfl
  have hDc := hD.sub (ws' := (ws_m_keeps cB cI cJ cZ cQ aM gs9)) [8] (by decide) rfl
  have hFc := va_free (wc := (ws_m_keeps cB cI cJ cZ cQ aM gs9)) hD hS hA [8] rfl
  refine va_calli (va_runV (As := [.int 0, .int 0]) (rest := []) ⟨hx, hb, hml, hown, hts⟩ (m_keeps l dC dI cB cI cJ cZ cQ aM gs9 H.size hgl10 ((hgf11 49 (by decide)).trans ((hgf5 49 (by decide)).trans haM_49)) ((hgf11 59 (by decide)).trans ((hgf5 59 (by decide)).trans haM_59))) (cwV 2 hts g_m_makes_m_keeps_375 rfl rfl rfl (by decide +kernel) ⟨Nat.le_of_ble_eq_true rfl, Nat.le_of_ble_eq_true rfl⟩) ⟨zFB, va_recv hK hP (ci := 12) (q0 := 8) rfl rfl, fun U hU hW => zUp hU hW hPc hK hO hDc⟩ rfl rfl hl.1 rfl (lv_room (Nat.le_of_ble_eq_true rfl)) dX12_makes_106 ⟨Nat.le_of_ble_eq_true rfl, Nat.le_of_ble_eq_true rfl⟩) hS (fun q _ h => hFc q h) hFc (fun r15 u t H1 locs ht hvm hw16 hB hz1 hk1 hS => ?_)
  obtain ⟨gs17, hgl18, hgf19, hgk20, hgk21, hP1, hD1⟩ := hB
  rw [ht] at hP1
  obtain ⟨hP, hD⟩ := va_join (wr := [(qgets, .inl (cI, 64, .inl fgets)), (qgetsAs, .inl (cI, 64, .inl fgetsAs)), (qgetsFrom, .inl (cI, 64, .inl fgetsFrom)), (qgetsAt, .inl (cI, 64, .inl fgetsAt)), (qmadeGets, .inl (cI, 64, .inl fmadeGets)), (qmadeAs, .inl (cI, 64, .inl fmadeAs)), (qmadeFrom, .inl (cI, 64, .inl fmadeFrom)), (qmadeAt, .inl (cI, 64, .inl fmadeAt))]) (w1 := [(aM, .inr (12, gs17))]) hP hD [8] [0, 1, 2, 3, 4, 5, 6, 7] rfl rfl (by decide) (by decide) hk1 hFc hP1 hD1
  generalize H1 = H at hP hS ⊢
  have hP : va_P (dC, dI) vwCl [(qgets, .inl (cI, 64, .inl fgets)), (qgetsAs, .inl (cI, 64, .inl fgetsAs)), (qgetsFrom, .inl (cI, 64, .inl fgetsFrom)), (qgetsAt, .inl (cI, 64, .inl fgetsAt)), (qmadeGets, .inl (cI, 64, .inl fmadeGets)), (qmadeAs, .inl (cI, 64, .inl fmadeAs)), (qmadeFrom, .inl (cI, 64, .inl fmadeFrom)), (qmadeAt, .inl (cI, 64, .inl fmadeAt)), (aM, .inr (12, gs17))] H := hP
  have hD : va_D A [(qgets, .inl (cI, 64, .inl fgets)), (qgetsAs, .inl (cI, 64, .inl fgetsAs)), (qgetsFrom, .inl (cI, 64, .inl fgetsFrom)), (qgetsAt, .inl (cI, 64, .inl fgetsAt)), (qmadeGets, .inl (cI, 64, .inl fmadeGets)), (qmadeAs, .inl (cI, 64, .inl fmadeAs)), (qmadeFrom, .inl (cI, 64, .inl fmadeFrom)), (qmadeAt, .inl (cI, 64, .inl fmadeAt)), (aM, .inr (12, gs17))] := hD
  obtain rfl : r15 = 1 := hw16
  refine lv_istore (lv' := [(6, .int 1), (5, .int 0), (4, .int 0), (3, .int 0), (0, .ref aM), (1, .int 0), (2, .int 0)]) hx hb dX12_makes_109 hl (by decide) rfl (fun ls hl => ?_)
  refine lv_aload_n hx hb dX12_makes_111 rfl (lv_at hl 4 rfl) ?_
  refine lv_iload_n hx hb dX12_makes_112 rfl (lv_at hl 3 rfl) ?_
  refine va_put (D := (dC, dI)) (ci := 12) (v := .int 0) (ty := .int) (C := RX12) (T := TX12) (N := 87) hx hb hts in_m_makes_12 tyX12 tyX12_ok nmX12 hown hK hP hD hS 8 rfl rfl 75 (by decide) (hts (.fieldLink RX12 385 "LanternHouseModel" "made" "I") (by decide +kernel)) (fun _ h9 => h9) rfl (by decide +kernel) rfl rfl (by rw [hgl18]; decide) dX12_makes_113 (fun H locs hP hD hS => ?_)
  have hP : va_P (dC, dI) vwCl [(qgets, .inl (cI, 64, .inl fgets)), (qgetsAs, .inl (cI, 64, .inl fgetsAs)), (qgetsFrom, .inl (cI, 64, .inl fgetsFrom)), (qgetsAt, .inl (cI, 64, .inl fgetsAt)), (qmadeGets, .inl (cI, 64, .inl fmadeGets)), (qmadeAs, .inl (cI, 64, .inl fmadeAs)), (qmadeFrom, .inl (cI, 64, .inl fmadeFrom)), (qmadeAt, .inl (cI, 64, .inl fmadeAt)), (aM, .inr (12, (List.set gs17 75 (.int 0))))] H := hP
  have hD : va_D A [(qgets, .inl (cI, 64, .inl fgets)), (qgetsAs, .inl (cI, 64, .inl fgetsAs)), (qgetsFrom, .inl (cI, 64, .inl fgetsFrom)), (qgetsAt, .inl (cI, 64, .inl fgetsAt)), (qmadeGets, .inl (cI, 64, .inl fmadeGets)), (qmadeAs, .inl (cI, 64, .inl fmadeAs)), (qmadeFrom, .inl (cI, 64, .inl fmadeFrom)), (qmadeAt, .inl (cI, 64, .inl fmadeAt)), (aM, .inr (12, (List.set gs17 75 (.int 0))))] := hD
  refine lv_aload_n hx hb dX12_makes_116 rfl (lv_at hl 4 rfl) ?_
  refine lv_iload hx hb dX12_makes_117 (lv_at hl 0 rfl) ?_
  refine va_put (D := (dC, dI)) (ci := 12) (v := .int 1) (ty := .boolean) (C := RX12) (T := TX12) (N := 87) hx hb hts in_m_makes_12 tyX12 tyX12_ok nmX12 hown hK hP hD hS 8 rfl rfl 74 (by decide) (hts (.fieldLink RX12 287 "LanternHouseModel" "isMade" "Z") (by decide +kernel)) (fun _ h9 => h9) rfl (by decide +kernel) rfl rfl (by rw [(zset_len hgl18)]; decide) dX12_makes_119 (fun H locs hP hD hS => ?_)
  have hP : va_P (dC, dI) vwCl [(qgets, .inl (cI, 64, .inl fgets)), (qgetsAs, .inl (cI, 64, .inl fgetsAs)), (qgetsFrom, .inl (cI, 64, .inl fgetsFrom)), (qgetsAt, .inl (cI, 64, .inl fgetsAt)), (qmadeGets, .inl (cI, 64, .inl fmadeGets)), (qmadeAs, .inl (cI, 64, .inl fmadeAs)), (qmadeFrom, .inl (cI, 64, .inl fmadeFrom)), (qmadeAt, .inl (cI, 64, .inl fmadeAt)), (aM, .inr (12, (List.set (List.set gs17 75 (.int 0)) 74 (.int 1))))] H := hP
  have hD : va_D A [(qgets, .inl (cI, 64, .inl fgets)), (qgetsAs, .inl (cI, 64, .inl fgetsAs)), (qgetsFrom, .inl (cI, 64, .inl fgetsFrom)), (qgetsAt, .inl (cI, 64, .inl fgetsAt)), (qmadeGets, .inl (cI, 64, .inl fmadeGets)), (qmadeAs, .inl (cI, 64, .inl fmadeAs)), (qmadeFrom, .inl (cI, 64, .inl fmadeFrom)), (qmadeAt, .inl (cI, 64, .inl fmadeAt)), (aM, .inr (12, (List.set (List.set gs17 75 (.int 0)) 74 (.int 1))))] := hD
  refine lv_aload_n hx hb dX12_makes_122 rfl (lv_at hl 4 rfl) ?_
  refine lv_aload_n hx hb dX12_makes_123 rfl (lv_at hl 4 rfl) ?_
  refine va_get (D := (dC, dI)) (ci := 12) (v := .int 0) (C := RX12) (T := TX12) (N := 87) hx hb hts in_m_makes_12 hown hK hP 8 rfl rfl 69 (by decide) (hts (.fieldLink RX12 361 "LanternHouseModel" "missed" "I") (by decide +kernel)) (fun _ h9 => h9) (zset_ne (by decide) (zset_ne (by decide) hgk20)) dX12_makes_124 ?_
  refine va_put (D := (dC, dI)) (ci := 12) (v := .int 0) (ty := .int) (C := RX12) (T := TX12) (N := 87) hx hb hts in_m_makes_12 tyX12 tyX12_ok nmX12 hown hK hP hD hS 8 rfl rfl 76 (by decide) (hts (.fieldLink RX12 388 "LanternHouseModel" "madeMissed" "I") (by decide +kernel)) (fun _ h9 => h9) rfl (by decide +kernel) rfl rfl (by rw [(zset_len (zset_len hgl18))]; decide) dX12_makes_127 (fun H locs hP hD hS => ?_)
  have hP : va_P (dC, dI) vwCl [(qgets, .inl (cI, 64, .inl fgets)), (qgetsAs, .inl (cI, 64, .inl fgetsAs)), (qgetsFrom, .inl (cI, 64, .inl fgetsFrom)), (qgetsAt, .inl (cI, 64, .inl fgetsAt)), (qmadeGets, .inl (cI, 64, .inl fmadeGets)), (qmadeAs, .inl (cI, 64, .inl fmadeAs)), (qmadeFrom, .inl (cI, 64, .inl fmadeFrom)), (qmadeAt, .inl (cI, 64, .inl fmadeAt)), (aM, .inr (12, (List.set (List.set (List.set gs17 75 (.int 0)) 74 (.int 1)) 76 (.int 0))))] H := hP
  have hD : va_D A [(qgets, .inl (cI, 64, .inl fgets)), (qgetsAs, .inl (cI, 64, .inl fgetsAs)), (qgetsFrom, .inl (cI, 64, .inl fgetsFrom)), (qgetsAt, .inl (cI, 64, .inl fgetsAt)), (qmadeGets, .inl (cI, 64, .inl fmadeGets)), (qmadeAs, .inl (cI, 64, .inl fmadeAs)), (qmadeFrom, .inl (cI, 64, .inl fmadeFrom)), (qmadeAt, .inl (cI, 64, .inl fmadeAt)), (aM, .inr (12, (List.set (List.set (List.set gs17 75 (.int 0)) 74 (.int 1)) 76 (.int 0))))] := hD
  refine lv_aload_n hx hb dX12_makes_130 rfl (lv_at hl 4 rfl) ?_
  refine lv_aload_n hx hb dX12_makes_131 rfl (lv_at hl 4 rfl) ?_
  refine va_get (D := (dC, dI)) (ci := 12) (v := .int 0) (C := RX12) (T := TX12) (N := 87) hx hb hts in_m_makes_12 hown hK hP 8 rfl rfl 70 (by decide) (hts (.fieldLink RX12 364 "LanternHouseModel" "instead" "I") (by decide +kernel)) (fun _ h9 => h9) (zset_ne (by decide) (zset_ne (by decide) (zset_ne (by decide) hgk21))) dX12_makes_132 ?_
  refine va_put (D := (dC, dI)) (ci := 12) (v := .int 0) (ty := .int) (C := RX12) (T := TX12) (N := 87) hx hb hts in_m_makes_12 tyX12 tyX12_ok nmX12 hown hK hP hD hS 8 rfl rfl 77 (by decide) (hts (.fieldLink RX12 391 "LanternHouseModel" "madeInstead" "I") (by decide +kernel)) (fun _ h9 => h9) rfl (by decide +kernel) rfl rfl (by rw [(zset_len (zset_len (zset_len hgl18)))]; decide) dX12_makes_135 (fun H locs hP hD hS => ?_)
  have hP : va_P (dC, dI) vwCl [(qgets, .inl (cI, 64, .inl fgets)), (qgetsAs, .inl (cI, 64, .inl fgetsAs)), (qgetsFrom, .inl (cI, 64, .inl fgetsFrom)), (qgetsAt, .inl (cI, 64, .inl fgetsAt)), (qmadeGets, .inl (cI, 64, .inl fmadeGets)), (qmadeAs, .inl (cI, 64, .inl fmadeAs)), (qmadeFrom, .inl (cI, 64, .inl fmadeFrom)), (qmadeAt, .inl (cI, 64, .inl fmadeAt)), (aM, .inr (12, (List.set (List.set (List.set (List.set gs17 75 (.int 0)) 74 (.int 1)) 76 (.int 0)) 77 (.int 0))))] H := hP
  have hD : va_D A [(qgets, .inl (cI, 64, .inl fgets)), (qgetsAs, .inl (cI, 64, .inl fgetsAs)), (qgetsFrom, .inl (cI, 64, .inl fgetsFrom)), (qgetsAt, .inl (cI, 64, .inl fgetsAt)), (qmadeGets, .inl (cI, 64, .inl fmadeGets)), (qmadeAs, .inl (cI, 64, .inl fmadeAs)), (qmadeFrom, .inl (cI, 64, .inl fmadeFrom)), (qmadeAt, .inl (cI, 64, .inl fmadeAt)), (aM, .inr (12, (List.set (List.set (List.set (List.set gs17 75 (.int 0)) 74 (.int 1)) 76 (.int 0)) 77 (.int 0))))] := hD
  refine lv_iconst (v := 0) hx hb dX12_makes_138 (by decide) ?_
  refine lv_istore (lv' := [(7, .int 0), (6, .int 1), (5, .int 0), (4, .int 0), (3, .int 0), (0, .ref aM), (1, .int 0), (2, .int 0)]) hx hb dX12_makes_139 hl (by decide) rfl (fun ls hl => ?_)
  have loop28 : ∀ (n23 k22 : Nat), k22 + n23 = 64 → ∀ (g24 : Nat → Int32) (g25 : Nat → Int32) (g26 : Nat → Int32) (g27 : Nat → Int32), ∀ (H : Heap) (locs : List Loc) (ls : Array Slot), va_P (dC, dI) vwCl [(qgets, .inl (cI, 64, .inl fgets)), (qgetsAs, .inl (cI, 64, .inl fgetsAs)), (qgetsFrom, .inl (cI, 64, .inl fgetsFrom)), (qgetsAt, .inl (cI, 64, .inl fgetsAt)), (qmadeGets, .inl (cI, 64, .inl g24)), (qmadeAs, .inl (cI, 64, .inl g25)), (qmadeFrom, .inl (cI, 64, .inl g26)), (qmadeAt, .inl (cI, 64, .inl g27)), (aM, .inr (12, (List.set (List.set (List.set (List.set gs17 75 (.int 0)) 74 (.int 1)) 76 (.int 0)) 77 (.int 0))))] H → va_D A [(qgets, .inl (cI, 64, .inl fgets)), (qgetsAs, .inl (cI, 64, .inl fgetsAs)), (qgetsFrom, .inl (cI, 64, .inl fgetsFrom)), (qgetsAt, .inl (cI, 64, .inl fgetsAt)), (qmadeGets, .inl (cI, 64, .inl g24)), (qmadeAs, .inl (cI, 64, .inl g25)), (qmadeFrom, .inl (cI, 64, .inl g26)), (qmadeAt, .inl (cI, 64, .inl g27)), (aM, .inr (12, (List.set (List.set (List.set (List.set gs17 75 (.int 0)) 74 (.int 1)) 76 (.int 0)) 77 (.int 0))))] → va_S A s.heap H locs → lv_has ls 8 [(7, .int (nI k22)), (6, .int 1), (5, .int 0), (4, .int 0), (3, .int 0), (0, .ref aM), (1, .int 0), (2, .int 0)] → W p l e (headSpec zs_m_makes ({ frames := 1, cells := 0, slots := 0, locals := 24 } : Room)).room s m ([.ref aM, .int 0, .int 0] : List Value).toArray below meth c H locs 0 0 (MQ below (va_Qv (fun (_ : Unit) => True) (fun (_ : Unit) (t : State) => ∃ (gsaM : List Value), gsaM.length = 87 ∧ (∀ j : Nat, ¬ j ∈ ([56, 69, 70, 75, 74, 76, 77] : List Nat) → gsaM[j]? = fsaM[j]?) ∧ gsaM[75]? = some (.int 0) ∧ va_P (dC, dI) vwCl [(aM, .inr (12, gsaM))] t.heap ∧ va_D A [(aM, .inr (12, gsaM))]) A) ([.ref aM, .int 0, .int 0] : List Value).toArray s 0 0 A) (F0 m 141 ls []) := by
    intro n23
    induction n23 with
    | zero =>
      intro k22 hk g24 g25 g26 g27 H locs ls hP hD hS hl
      obtain rfl : k22 = 64 := by omega
      rw [show nI 64 = 64 from by decide] at hl
      refine lv_iload hx hb dX12_makes_141 (lv_at hl 0 rfl) ?_
      refine lv_bipush (v := 64) hx hb dX12_makes_143 (by decide) ?_
      refine lv_icmp_ge (tgt := 210) hx hb dX12_makes_145 (by decide) (fun _ => ?_) (fun zc => absurd zc (by decide))
      have hP9 : va_P (dC, dI) vwCl [(aM, .inr (12, (List.set (List.set (List.set (List.set gs17 75 (.int 0)) 74 (.int 1)) 76 (.int 0)) 77 (.int 0))))] H := hP.sub [8] rfl
      have hD9 : va_D A [(aM, .inr (12, (List.set (List.set (List.set (List.set gs17 75 (.int 0)) 74 (.int 1)) 76 (.int 0)) 77 (.int 0))))] := hD.sub [8] (by decide) rfl
      exact W.vret hx hb hr (fun t ht hW => ⟨⟨(), rfl, trivial, ⟨(List.set (List.set (List.set (List.set gs17 75 (.int 0)) 74 (.int 1)) 76 (.int 0)) 77 (.int 0)), (zset_len (zset_len (zset_len (zset_len hgl18)))), (fun j hj => ((zfr (by decide) hj).trans ((zfr (by decide) hj).trans ((zfr (by decide) hj).trans ((zfr (by decide) hj).trans ((zfs hgf19 (by decide) hj).trans ((zfs hgf11 (by decide) hj).trans ((zfs hgf5 (by decide) hj).trans rfl)))))))), (zset_ne (by decide) (zset_ne (by decide) (zset_ne (by decide) (zset_eq (by rw [hgl18]; decide))))), by rw [ht]; exact hP9, hD9⟩⟩, hS.F ht⟩) hS.2.2 dX12_makes_210
    | succ n23 ih =>
      intro k22 hk g24 g25 g26 g27 H locs ls hP hD hS hl
      refine lv_iload hx hb dX12_makes_141 (lv_at hl 0 rfl) ?_
      refine lv_bipush (v := 64) hx hb dX12_makes_143 (by decide) ?_
      refine lv_icmp_ge (tgt := 210) hx hb dX12_makes_145 (by decide) (fun zc => absurd zc (by rw [show (64 : Int32) = nI 64 from by decide]; exact nI_ge (by omega) (by decide))) (fun _ => ?_)
      refine lv_aload_n hx hb dX12_makes_148 rfl (lv_at hl 5 rfl) ?_
      refine va_get (D := (dC, dI)) (ci := 12) (v := .ref qmadeGets) (C := RX12) (T := TX12) (N := 87) hx hb hts in_m_makes_12 hown hK hP 8 rfl rfl 78 (by decide) (hts (.fieldLink RX12 173 "LanternHouseModel" "madeGets" "[I") (by decide +kernel)) (fun _ h9 => h9) (zset_ne (by decide) (zset_ne (by decide) (zset_ne (by decide) (zset_ne (by decide) ((hgf19 78 (by decide)).trans ((hgf11 78 (by decide)).trans ((hgf5 78 (by decide)).trans haM_78))))))) dX12_makes_149 ?_
      refine lv_iload hx hb dX12_makes_152 (lv_at hl 0 rfl) ?_
      refine lv_aload_n hx hb dX12_makes_154 rfl (lv_at hl 5 rfl) ?_
      refine va_get (D := (dC, dI)) (ci := 12) (v := .ref qgets) (C := RX12) (T := TX12) (N := 87) hx hb hts in_m_makes_12 hown hK hP 8 rfl rfl 65 (by decide) (hts (.fieldLink RX12 152 "LanternHouseModel" "gets" "[I") (by decide +kernel)) (fun _ h9 => h9) (zset_ne (by decide) (zset_ne (by decide) (zset_ne (by decide) (zset_ne (by decide) ((hgf19 65 (by decide)).trans ((hgf11 65 (by decide)).trans ((hgf5 65 (by decide)).trans haM_65))))))) dX12_makes_155 ?_
      refine lv_iload hx hb dX12_makes_158 (lv_at hl 0 rfl) ?_
      refine z_iald hx hb hK hP 0 1 rfl rfl (vp_in_nI (by omega) (by first | decide | omega)) rfl dX12_makes_160 ?_
      refine lv_topi (fun x29 ex29 => ?_)
      refine z_iast hx hb hK hP hD hS 4 1 rfl rfl (vp_in_nI (by omega) (by first | decide | omega)) dX12_makes_161 (fun H locs g30 hg30 hP hD hS => ?_)
      have hP : va_P (dC, dI) vwCl [(qgets, .inl (cI, 64, .inl fgets)), (qgetsAs, .inl (cI, 64, .inl fgetsAs)), (qgetsFrom, .inl (cI, 64, .inl fgetsFrom)), (qgetsAt, .inl (cI, 64, .inl fgetsAt)), (qmadeGets, .inl (cI, 64, .inl g30)), (qmadeAs, .inl (cI, 64, .inl g25)), (qmadeFrom, .inl (cI, 64, .inl g26)), (qmadeAt, .inl (cI, 64, .inl g27)), (aM, .inr (12, (List.set (List.set (List.set (List.set gs17 75 (.int 0)) 74 (.int 1)) 76 (.int 0)) 77 (.int 0))))] H := hP
      have hD : va_D A [(qgets, .inl (cI, 64, .inl fgets)), (qgetsAs, .inl (cI, 64, .inl fgetsAs)), (qgetsFrom, .inl (cI, 64, .inl fgetsFrom)), (qgetsAt, .inl (cI, 64, .inl fgetsAt)), (qmadeGets, .inl (cI, 64, .inl g30)), (qmadeAs, .inl (cI, 64, .inl g25)), (qmadeFrom, .inl (cI, 64, .inl g26)), (qmadeAt, .inl (cI, 64, .inl g27)), (aM, .inr (12, (List.set (List.set (List.set (List.set gs17 75 (.int 0)) 74 (.int 1)) 76 (.int 0)) 77 (.int 0))))] := hD
      refine lv_aload_n hx hb dX12_makes_162 rfl (lv_at hl 5 rfl) ?_
      refine va_get (D := (dC, dI)) (ci := 12) (v := .ref qmadeAs) (C := RX12) (T := TX12) (N := 87) hx hb hts in_m_makes_12 hown hK hP 8 rfl rfl 79 (by decide) (hts (.fieldLink RX12 176 "LanternHouseModel" "madeAs" "[I") (by decide +kernel)) (fun _ h9 => h9) (zset_ne (by decide) (zset_ne (by decide) (zset_ne (by decide) (zset_ne (by decide) ((hgf19 79 (by decide)).trans ((hgf11 79 (by decide)).trans ((hgf5 79 (by decide)).trans haM_79))))))) dX12_makes_163 ?_
      refine lv_iload hx hb dX12_makes_166 (lv_at hl 0 rfl) ?_
      refine lv_aload_n hx hb dX12_makes_168 rfl (lv_at hl 5 rfl) ?_
      refine va_get (D := (dC, dI)) (ci := 12) (v := .ref qgetsAs) (C := RX12) (T := TX12) (N := 87) hx hb hts in_m_makes_12 hown hK hP 8 rfl rfl 66 (by decide) (hts (.fieldLink RX12 155 "LanternHouseModel" "getsAs" "[I") (by decide +kernel)) (fun _ h9 => h9) (zset_ne (by decide) (zset_ne (by decide) (zset_ne (by decide) (zset_ne (by decide) ((hgf19 66 (by decide)).trans ((hgf11 66 (by decide)).trans ((hgf5 66 (by decide)).trans haM_66))))))) dX12_makes_169 ?_
      refine lv_iload hx hb dX12_makes_172 (lv_at hl 0 rfl) ?_
      refine z_iald hx hb hK hP 1 1 rfl rfl (vp_in_nI (by omega) (by first | decide | omega)) rfl dX12_makes_174 ?_
      refine lv_topi (fun x31 ex31 => ?_)
      refine z_iast hx hb hK hP hD hS 5 1 rfl rfl (vp_in_nI (by omega) (by first | decide | omega)) dX12_makes_175 (fun H locs g32 hg32 hP hD hS => ?_)
      have hP : va_P (dC, dI) vwCl [(qgets, .inl (cI, 64, .inl fgets)), (qgetsAs, .inl (cI, 64, .inl fgetsAs)), (qgetsFrom, .inl (cI, 64, .inl fgetsFrom)), (qgetsAt, .inl (cI, 64, .inl fgetsAt)), (qmadeGets, .inl (cI, 64, .inl g30)), (qmadeAs, .inl (cI, 64, .inl g32)), (qmadeFrom, .inl (cI, 64, .inl g26)), (qmadeAt, .inl (cI, 64, .inl g27)), (aM, .inr (12, (List.set (List.set (List.set (List.set gs17 75 (.int 0)) 74 (.int 1)) 76 (.int 0)) 77 (.int 0))))] H := hP
      have hD : va_D A [(qgets, .inl (cI, 64, .inl fgets)), (qgetsAs, .inl (cI, 64, .inl fgetsAs)), (qgetsFrom, .inl (cI, 64, .inl fgetsFrom)), (qgetsAt, .inl (cI, 64, .inl fgetsAt)), (qmadeGets, .inl (cI, 64, .inl g30)), (qmadeAs, .inl (cI, 64, .inl g32)), (qmadeFrom, .inl (cI, 64, .inl g26)), (qmadeAt, .inl (cI, 64, .inl g27)), (aM, .inr (12, (List.set (List.set (List.set (List.set gs17 75 (.int 0)) 74 (.int 1)) 76 (.int 0)) 77 (.int 0))))] := hD
      refine lv_aload_n hx hb dX12_makes_176 rfl (lv_at hl 5 rfl) ?_
      refine va_get (D := (dC, dI)) (ci := 12) (v := .ref qmadeFrom) (C := RX12) (T := TX12) (N := 87) hx hb hts in_m_makes_12 hown hK hP 8 rfl rfl 80 (by decide) (hts (.fieldLink RX12 179 "LanternHouseModel" "madeFrom" "[I") (by decide +kernel)) (fun _ h9 => h9) (zset_ne (by decide) (zset_ne (by decide) (zset_ne (by decide) (zset_ne (by decide) ((hgf19 80 (by decide)).trans ((hgf11 80 (by decide)).trans ((hgf5 80 (by decide)).trans haM_80))))))) dX12_makes_177 ?_
      refine lv_iload hx hb dX12_makes_180 (lv_at hl 0 rfl) ?_
      refine lv_aload_n hx hb dX12_makes_182 rfl (lv_at hl 5 rfl) ?_
      refine va_get (D := (dC, dI)) (ci := 12) (v := .ref qgetsFrom) (C := RX12) (T := TX12) (N := 87) hx hb hts in_m_makes_12 hown hK hP 8 rfl rfl 67 (by decide) (hts (.fieldLink RX12 158 "LanternHouseModel" "getsFrom" "[I") (by decide +kernel)) (fun _ h9 => h9) (zset_ne (by decide) (zset_ne (by decide) (zset_ne (by decide) (zset_ne (by decide) ((hgf19 67 (by decide)).trans ((hgf11 67 (by decide)).trans ((hgf5 67 (by decide)).trans haM_67))))))) dX12_makes_183 ?_
      refine lv_iload hx hb dX12_makes_186 (lv_at hl 0 rfl) ?_
      refine z_iald hx hb hK hP 2 1 rfl rfl (vp_in_nI (by omega) (by first | decide | omega)) rfl dX12_makes_188 ?_
      refine lv_topi (fun x33 ex33 => ?_)
      refine z_iast hx hb hK hP hD hS 6 1 rfl rfl (vp_in_nI (by omega) (by first | decide | omega)) dX12_makes_189 (fun H locs g34 hg34 hP hD hS => ?_)
      have hP : va_P (dC, dI) vwCl [(qgets, .inl (cI, 64, .inl fgets)), (qgetsAs, .inl (cI, 64, .inl fgetsAs)), (qgetsFrom, .inl (cI, 64, .inl fgetsFrom)), (qgetsAt, .inl (cI, 64, .inl fgetsAt)), (qmadeGets, .inl (cI, 64, .inl g30)), (qmadeAs, .inl (cI, 64, .inl g32)), (qmadeFrom, .inl (cI, 64, .inl g34)), (qmadeAt, .inl (cI, 64, .inl g27)), (aM, .inr (12, (List.set (List.set (List.set (List.set gs17 75 (.int 0)) 74 (.int 1)) 76 (.int 0)) 77 (.int 0))))] H := hP
      have hD : va_D A [(qgets, .inl (cI, 64, .inl fgets)), (qgetsAs, .inl (cI, 64, .inl fgetsAs)), (qgetsFrom, .inl (cI, 64, .inl fgetsFrom)), (qgetsAt, .inl (cI, 64, .inl fgetsAt)), (qmadeGets, .inl (cI, 64, .inl g30)), (qmadeAs, .inl (cI, 64, .inl g32)), (qmadeFrom, .inl (cI, 64, .inl g34)), (qmadeAt, .inl (cI, 64, .inl g27)), (aM, .inr (12, (List.set (List.set (List.set (List.set gs17 75 (.int 0)) 74 (.int 1)) 76 (.int 0)) 77 (.int 0))))] := hD
      refine lv_aload_n hx hb dX12_makes_190 rfl (lv_at hl 5 rfl) ?_
      refine va_get (D := (dC, dI)) (ci := 12) (v := .ref qmadeAt) (C := RX12) (T := TX12) (N := 87) hx hb hts in_m_makes_12 hown hK hP 8 rfl rfl 81 (by decide) (hts (.fieldLink RX12 182 "LanternHouseModel" "madeAt" "[I") (by decide +kernel)) (fun _ h9 => h9) (zset_ne (by decide) (zset_ne (by decide) (zset_ne (by decide) (zset_ne (by decide) ((hgf19 81 (by decide)).trans ((hgf11 81 (by decide)).trans ((hgf5 81 (by decide)).trans haM_81))))))) dX12_makes_191 ?_
      refine lv_iload hx hb dX12_makes_194 (lv_at hl 0 rfl) ?_
      refine lv_aload_n hx hb dX12_makes_196 rfl (lv_at hl 5 rfl) ?_
      refine va_get (D := (dC, dI)) (ci := 12) (v := .ref qgetsAt) (C := RX12) (T := TX12) (N := 87) hx hb hts in_m_makes_12 hown hK hP 8 rfl rfl 68 (by decide) (hts (.fieldLink RX12 161 "LanternHouseModel" "getsAt" "[I") (by decide +kernel)) (fun _ h9 => h9) (zset_ne (by decide) (zset_ne (by decide) (zset_ne (by decide) (zset_ne (by decide) ((hgf19 68 (by decide)).trans ((hgf11 68 (by decide)).trans ((hgf5 68 (by decide)).trans haM_68))))))) dX12_makes_197 ?_
      refine lv_iload hx hb dX12_makes_200 (lv_at hl 0 rfl) ?_
      refine z_iald hx hb hK hP 3 1 rfl rfl (vp_in_nI (by omega) (by first | decide | omega)) rfl dX12_makes_202 ?_
      refine lv_topi (fun x35 ex35 => ?_)
      refine z_iast hx hb hK hP hD hS 7 1 rfl rfl (vp_in_nI (by omega) (by first | decide | omega)) dX12_makes_203 (fun H locs g36 hg36 hP hD hS => ?_)
      have hP : va_P (dC, dI) vwCl [(qgets, .inl (cI, 64, .inl fgets)), (qgetsAs, .inl (cI, 64, .inl fgetsAs)), (qgetsFrom, .inl (cI, 64, .inl fgetsFrom)), (qgetsAt, .inl (cI, 64, .inl fgetsAt)), (qmadeGets, .inl (cI, 64, .inl g30)), (qmadeAs, .inl (cI, 64, .inl g32)), (qmadeFrom, .inl (cI, 64, .inl g34)), (qmadeAt, .inl (cI, 64, .inl g36)), (aM, .inr (12, (List.set (List.set (List.set (List.set gs17 75 (.int 0)) 74 (.int 1)) 76 (.int 0)) 77 (.int 0))))] H := hP
      have hD : va_D A [(qgets, .inl (cI, 64, .inl fgets)), (qgetsAs, .inl (cI, 64, .inl fgetsAs)), (qgetsFrom, .inl (cI, 64, .inl fgetsFrom)), (qgetsAt, .inl (cI, 64, .inl fgetsAt)), (qmadeGets, .inl (cI, 64, .inl g30)), (qmadeAs, .inl (cI, 64, .inl g32)), (qmadeFrom, .inl (cI, 64, .inl g34)), (qmadeAt, .inl (cI, 64, .inl g36)), (aM, .inr (12, (List.set (List.set (List.set (List.set gs17 75 (.int 0)) 74 (.int 1)) 76 (.int 0)) 77 (.int 0))))] := hD
      refine lv_iinc (v := (nI (k22 + 1))) (lv' := [(7, .int (nI (k22 + 1))), (6, .int 1), (5, .int 0), (4, .int 0), (3, .int 0), (0, .ref aM), (1, .int 0), (2, .int 0)]) hx hb dX12_makes_204 hl (k := 0) rfl (nI_1 _) (by decide) rfl (fun ls hl => ?_)
      refine lv_goto (tgt := 141) hx hb dX12_makes_207 (by decide) ?_
      exact ih (k22 + 1) (by omega) _ _ _ _ _ _ _ hP hD hS (lv_sub hl [0, 1, 2, 3, 4, 5, 6, 7] rfl)
  exact loop28 64 0 (by omega) _ _ _ _ _ _ _ hP hD hS (by rw [nI_0]; exact lv_sub hl [0, 1, 2, 3, 4, 5, 6, 7] rfl)

