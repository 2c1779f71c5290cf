abbrev ws_h_hall (cB cI cJ cZ cQ : ClassId) (aH aRa : Nat) (fsaH : List Value) (fsaRa : List Value) : va_W := [(aH, .inr (11, fsaH)), (aRa, .inr (4, fsaRa))]
set_option maxHeartbeats 4000000 in
set_option maxRecDepth 100000 in
theorem h_hall (l : Launch) (dC : Nat → ClassId) (dI : Nat → Nat → Nat) (cB cI cJ cZ cQ : ClassId) (aH aRa : Nat) (fsaH : List Value) (fsaRa : List Value) (sz : Nat) (hlaH : fsaH.length = 13) (haH_3 : fsaH[3]? = some (.ref aRa)) (hlaRa : fsaRa.length = 8) (haRa_6 : fsaRa[6]? = some (.int 1)) : Met l yX11_hall wsX11_hall ({ frames := 1, cells := 0, slots := 0, locals := 20 } : Room) (zPc [.ref aH] (dC, dI) (zTY cB cI cJ cZ cQ) (ws_h_hall cB cI cJ cZ cQ aH aRa fsaH fsaRa) sz) (va_Qi (fun (zr : Int32) (_ : Unit) => zr = 1) (fun (_ : Unit) (_ : State) => True) (va_A (ws_h_hall cB cI cJ cZ cQ aH aRa fsaH fsaRa) sz)) 0 0 (va_A (ws_h_hall cB cI cJ cZ cQ aH aRa fsaH fsaRa) sz) := by
  refine Met.ofW (cc := cX11_hall) (maxL := 1) (ret := (some .int)) (by decide) rfl ?_
  intro p e s m args below meth c s₁ B hml hv
  obtain ⟨rfl, hsz, hP0, hK, hO, hD0⟩ := hv
  have hx := B.exec
  have hb := B.bytes
  have hr := B.returns
  have hts := atoms_spec (ws := wsX11_hall) B.pre
  have hown : s.vm.findClass RX11 = some m.cls := findClass_of_methodNamed B.named
  have hlocks := B.notSynchronized
  subst hsz
  have hD8 := hD0.self (sz := s.heap.size)
  generalize hAe : va_A (ws_h_hall cB cI cJ cZ cQ aH aRa fsaH fsaRa) s.heap.size = A at hD8 ⊢
  have hA : ∀ q : Nat, s.heap.size ≤ q → A q := fun q h => by rw [← hAe]; exact Or.inr h
  have hS : va_S A s.heap s.heap [] := va_S.rf
  have hP : va_P (dC, dI) vwCl [(aH, .inr (11, fsaH)), (aRa, .inr (4, fsaRa))] s.heap := hP0
  have hD : va_D A [(aH, .inr (11, fsaH)), (aRa, .inr (4, fsaRa))] := hD8
  have hl := lv_entry ([.ref aH]) (n := 1) (Nat.le_of_ble_eq_true rfl)
  rw [lg_entry_eq]
  generalize (lg_sl ([.ref aH]) ++ List.replicate (1 - (lg_sl ([.ref aH])).length) Slot.unset).toArray = ls at hl ⊢
  have hl : lv_has ls 1 [(0, .ref aH)] := hl
  clear hP0 hD8 hD0
  refine zH0 (fun H hP hS => ?_) hP hS
  refine lv_aload_n hx hb dX11_hall_0 rfl (lv_at hl 0 rfl) ?_
  refine va_get (D := (dC, dI)) (ci := 11) (v := .ref aRa) (C := RX11) (T := TX11) (N := 13) hx hb hts in_X11_hall_11 hown hK hP 0 rfl rfl 3 (by decide) (hts (.fieldLink RX11 35 "LanternHouse" "rails" "LLanternHouse$Rails;") (by decide +kernel)) (fun _ h9 => h9) haH_3 dX11_hall_1 ?_
  have hPc : va_P (dC, dI) vwCl (ws_c_addHall cB cI cJ cZ cQ aRa fsaRa) H := hP.sub [1] rfl
  have hDc := hD.sub (ws' := (ws_c_addHall cB cI cJ cZ cQ aRa fsaRa)) [1] (by decide) rfl
  have hFc := va_free (wc := (ws_c_addHall cB cI cJ cZ cQ aRa fsaRa)) hD hS hA [1] rfl
  refine va_calli (va_runV (As := []) (rest := []) ⟨hx, hb, hml, hown, hts⟩ (c_addHall l dC dI cB cI cJ cZ cQ aRa fsaRa H.size hlaRa haRa_6) (cwV 0 hts gX11_hall_X4_addHall rfl rfl rfl (by decide +kernel) ⟨Nat.le_of_ble_eq_true rfl, Nat.le_of_ble_eq_true rfl⟩) ⟨zFB, va_recv hK hP (ci := 4) (q0 := 1) rfl rfl, fun U hU hW => zUp hU hW hPc hK hO hDc⟩ rfl rfl hl.1 rfl (lv_room (Nat.le_of_ble_eq_true rfl)) dX11_hall_4 ⟨Nat.le_of_ble_eq_true rfl, Nat.le_of_ble_eq_true rfl⟩) hS (fun q _ h => hFc q h) hFc (fun r1 u t H1 locs ht hvm hw2 hB hz1 hk1 hS => ?_)
  have hP1 : va_P (dC, dI) vwCl [] H1 := zNilP
  have hD1 : va_D (va_A (ws_c_addHall cB cI cJ cZ cQ aRa fsaRa) H.size) [] := zNilD
  obtain ⟨hP, hD⟩ := va_join (wr := [(aH, .inr (11, fsaH))]) (w1 := []) hP hD [1] [0] rfl rfl (by decide) (by decide) hk1 hFc hP1 hD1
  generalize H1 = H at hP hS ⊢
  have hP : va_P (dC, dI) vwCl [(aH, .inr (11, fsaH))] H := hP
  have hD : va_D A [(aH, .inr (11, fsaH))] := hD
  obtain rfl : r1 = 1 := hw2
  exact W.iret (v := 1) hx hb hr (fun t ht hW => ⟨⟨1, (), rfl, rfl, trivial⟩, hS.F ht⟩) hS.2.2 dX11_hall_7

abbrev ws_h_train (cB cI cJ cZ cQ : ClassId) (aH aRa : Nat) (iFr : Int32) (iTo : Int32) (iHr : Int32) (iTa : Int32) (fsaH : List Value) (fsaRa : List Value) : va_W := [(aH, .inr (11, fsaH)), (aRa, .inr (4, fsaRa))]
set_option maxHeartbeats 4000000 in
set_option maxRecDepth 100000 in
theorem h_train (l : Launch) (dC : Nat → ClassId) (dI : Nat → Nat → Nat) (cB cI cJ cZ cQ : ClassId) (aH aRa : Nat) (iFr : Int32) (iTo : Int32) (iHr : Int32) (iTa : Int32) (fsaH : List Value) (fsaRa : List Value) (sz : Nat) (hlaH : fsaH.length = 13) (haH_3 : fsaH[3]? = some (.ref aRa)) (hlaRa : fsaRa.length = 8) (haRa_6 : fsaRa[6]? = some (.int 1)) (haRa_7 : fsaRa[7]? = some (.int 0)) : Met l yX11_train wsX11_train ({ frames := 2, cells := 0, slots := 0, locals := 45 } : Room) (zPc [.ref aH, .int iFr, .int iTo, .int iHr, .int iTa] (dC, dI) (zTY cB cI cJ cZ cQ) (ws_h_train cB cI cJ cZ cQ aH aRa iFr iTo iHr iTa fsaH fsaRa) sz) (va_Qi (fun (zr : Int32) (_ : Unit) => zr = (-1)) (fun (_ : Unit) (_ : State) => True) (va_A (ws_h_train cB cI cJ cZ cQ aH aRa iFr iTo iHr iTa fsaH fsaRa) sz)) 0 0 (va_A (ws_h_train cB cI cJ cZ cQ aH aRa iFr iTo iHr iTa fsaH fsaRa) sz) := by
  refine Met.ofW (cc := cX11_train) (maxL := 5) (ret := (some .int)) (by decide) rfl ?_
  intro p e s m args below meth c s₁ B hml hv
  obtain ⟨rfl, hsz, hP0, hK, hO, hD0⟩ := hv
  have hx := B.exec
  have hb := B.bytes
  have hr := B.returns
  have hts := atoms_spec (ws := wsX11_train) B.pre
  have hown : s.vm.findClass RX11 = some m.cls := findClass_of_methodNamed B.named
  have hlocks := B.notSynchronized
  subst hsz
  have hD8 := hD0.self (sz := s.heap.size)
  generalize hAe : va_A (ws_h_train cB cI cJ cZ cQ aH aRa iFr iTo iHr iTa fsaH fsaRa) s.heap.size = A at hD8 ⊢
  have hA : ∀ q : Nat, s.heap.size ≤ q → A q := fun q h => by rw [← hAe]; exact Or.inr h
  have hS : va_S A s.heap s.heap [] := va_S.rf
  have hP : va_P (dC, dI) vwCl [(aH, .inr (11, fsaH)), (aRa, .inr (4, fsaRa))] s.heap := hP0
  have hD : va_D A [(aH, .inr (11, fsaH)), (aRa, .inr (4, fsaRa))] := hD8
  have hl := lv_entry ([.ref aH, .int iFr, .int iTo, .int iHr, .int iTa]) (n := 5) (Nat.le_of_ble_eq_true rfl)
  rw [lg_entry_eq]
  generalize (lg_sl ([.ref aH, .int iFr, .int iTo, .int iHr, .int iTa]) ++ List.replicate (5 - (lg_sl ([.ref aH, .int iFr, .int iTo, .int iHr, .int iTa])).length) Slot.unset).toArray = ls at hl ⊢
  have hl : lv_has ls 5 [(0, .ref aH), (1, .int iFr), (2, .int iTo), (3, .int iHr), (4, .int iTa)] := hl
  clear hP0 hD8 hD0
  refine zH0 (fun H hP hS => ?_) hP hS
  refine lv_aload_n hx hb dX11_train_0 rfl (lv_at hl 0 rfl) ?_
  refine va_get (D := (dC, dI)) (ci := 11) (v := .ref aRa) (C := RX11) (T := TX11) (N := 13) hx hb hts in_X11_train_11 hown hK hP 0 rfl rfl 3 (by decide) (hts (.fieldLink RX11 35 "LanternHouse" "rails" "LLanternHouse$Rails;") (by decide +kernel)) (fun _ h9 => h9) haH_3 dX11_train_1 ?_
  refine lv_iload_n hx hb dX11_train_4 rfl (lv_at hl 1 rfl) ?_
  refine lv_iload_n hx hb dX11_train_5 rfl (lv_at hl 2 rfl) ?_
  refine lv_iload_n hx hb dX11_train_6 rfl (lv_at hl 3 rfl) ?_
  refine lv_iload hx hb dX11_train_7 (lv_at hl 4 rfl) ?_
  have hPc : va_P (dC, dI) vwCl (ws_c_addTrain cB cI cJ cZ cQ aRa iFr iTo iHr iTa fsaRa) H := hP.sub [1] rfl
  have hDc := hD.sub (ws' := (ws_c_addTrain cB cI cJ cZ cQ aRa iFr iTo iHr iTa fsaRa)) [1] (by decide) rfl
  have hFc := va_free (wc := (ws_c_addTrain cB cI cJ cZ cQ aRa iFr iTo iHr iTa fsaRa)) hD hS hA [1] rfl
  refine va_calli (va_runV (As := [.int iFr, .int iTo, .int iHr, .int iTa]) (rest := []) ⟨hx, hb, hml, hown, hts⟩ (c_addTrain l dC dI cB cI cJ cZ cQ aRa iFr iTo iHr iTa fsaRa H.size hlaRa haRa_6 haRa_7) (cwV 4 hts gX11_train_X4_addTrain rfl rfl rfl (by decide +kernel) ⟨Nat.le_of_ble_eq_true rfl, Nat.le_of_ble_eq_true rfl⟩) ⟨zFB, va_recv hK hP (ci := 4) (q0 := 1) rfl rfl, fun U hU hW => zUp hU hW hPc hK hO hDc⟩ rfl rfl hl.1 rfl (lv_room (Nat.le_of_ble_eq_true rfl)) dX11_train_9 ⟨Nat.le_of_ble_eq_true rfl, Nat.le_of_ble_eq_true rfl⟩) hS (fun q _ h => hFc q h) hFc (fun r1 u t H1 locs ht hvm hw2 hB hz1 hk1 hS => ?_)
  have hP1 : va_P (dC, dI) vwCl [] H1 := zNilP
  have hD1 : va_D (va_A (ws_c_addTrain cB cI cJ cZ cQ aRa iFr iTo iHr iTa fsaRa) H.size) [] := zNilD
  obtain ⟨hP, hD⟩ := va_join (wr := [(aH, .inr (11, fsaH))]) (w1 := []) hP hD [1] [0] rfl rfl (by decide) (by decide) hk1 hFc hP1 hD1
  generalize H1 = H at hP hS ⊢
  have hP : va_P (dC, dI) vwCl [(aH, .inr (11, fsaH))] H := hP
  have hD : va_D A [(aH, .inr (11, fsaH))] := hD
  obtain rfl : r1 = (-1) := hw2
  exact W.iret (v := (-1)) hx hb hr (fun t ht hW => ⟨⟨(-1), (), rfl, rfl, trivial⟩, hS.F ht⟩) hS.2.2 dX11_train_12

