abbrev ws_c_addHall (cB cI cJ cZ cQ : ClassId) (aRa : Nat) (fsaRa : List Value) : va_W := [(aRa, .inr (4, fsaRa))]
set_option maxHeartbeats 4000000 in
set_option maxRecDepth 100000 in
theorem c_addHall (l : Launch) (dC : Nat → ClassId) (dI : Nat → Nat → Nat) (cB cI cJ cZ cQ : ClassId) (aRa : Nat) (fsaRa : List Value) (sz : Nat) (hlaRa : fsaRa.length = 8) (haRa_6 : fsaRa[6]? = some (.int 1)) : Met l yX4_addHall wsX4_addHall ({ frames := 0, cells := 0, slots := 0, locals := 0 } : Room) (zPc [.ref aRa] (dC, dI) (zTY cB cI cJ cZ cQ) (ws_c_addHall cB cI cJ cZ cQ aRa fsaRa) sz) (va_Qi (fun (zr : Int32) (_ : Unit) => zr = 1) (fun (_ : Unit) (_ : State) => True) (va_A (ws_c_addHall cB cI cJ cZ cQ aRa fsaRa) sz)) 0 0 (va_A (ws_c_addHall cB cI cJ cZ cQ aRa fsaRa) sz) := by
  refine Met.ofW (cc := cX4_addHall) (maxL := 1) (ret := (some .int)) (by decide) rfl ?_
  intro p e s m args below meth c s₁ B hml hv
  obtain ⟨rfl, hsz, hP0, hK, hO, hD0⟩ := hv
  have hx := B.exec
  have hb := B.bytes
  have hr := B.returns
  have hts := atoms_spec (ws := wsX4_addHall) B.pre
  have hown : s.vm.findClass RX4 = some m.cls := findClass_of_methodNamed B.named
  have hlocks := B.notSynchronized
  subst hsz
  have hD8 := hD0.self (sz := s.heap.size)
  generalize hAe : va_A (ws_c_addHall cB cI cJ cZ cQ aRa fsaRa) s.heap.size = A at hD8 ⊢
  have hA : ∀ q : Nat, s.heap.size ≤ q → A q := fun q h => by rw [← hAe]; exact Or.inr h
  have hS : va_S A s.heap s.heap [] := va_S.rf
  have hP : va_P (dC, dI) vwCl [(aRa, .inr (4, fsaRa))] s.heap := hP0
  have hD : va_D A [(aRa, .inr (4, fsaRa))] := hD8
  have hl := lv_entry ([.ref aRa]) (n := 1) (Nat.le_of_ble_eq_true rfl)
  rw [lg_entry_eq]
  generalize (lg_sl ([.ref aRa]) ++ List.replicate (1 - (lg_sl ([.ref aRa])).length) Slot.unset).toArray = ls at hl ⊢
  have hl : lv_has ls 1 [(0, .ref aRa)] := hl
  clear hP0 hD8 hD0
  refine zH0 (fun H hP hS => ?_) hP hS
  refine lv_aload_n hx hb dX4_addHall_0 rfl (lv_at hl 0 rfl) ?_
  refine va_get (D := (dC, dI)) (ci := 4) (v := .int 1) (C := RX4) (T := TX4) (N := 8) hx hb hts in_X4_addHall_4 hown hK hP 0 rfl rfl 6 (by decide) (hts (.fieldLink RX4 31 "LanternHouse$Rails" "halls" "I") (by decide +kernel)) (fun _ h9 => h9) haRa_6 dX4_addHall_1 ?_
  refine lv_bipush (v := 6) hx hb dX4_addHall_4 (by decide) ?_
  refine lv_icmp_lt (tgt := 11) hx hb dX4_addHall_6 (by decide) (fun _ => ?_) (fun zc => absurd zc (by decide))
  refine lv_aload_n hx hb dX4_addHall_11 rfl (lv_at hl 0 rfl) ?_
  refine lv_dup hx hb dX4_addHall_12 rfl ?_
  refine va_get (D := (dC, dI)) (ci := 4) (v := .int 1) (C := RX4) (T := TX4) (N := 8) hx hb hts in_X4_addHall_4 hown hK hP 0 rfl rfl 6 (by decide) (hts (.fieldLink RX4 31 "LanternHouse$Rails" "halls" "I") (by decide +kernel)) (fun _ h9 => h9) haRa_6 dX4_addHall_13 ?_
  refine lv_iconst (v := 1) hx hb dX4_addHall_16 (by decide) ?_
  refine lv_iadd hx hb dX4_addHall_17 ?_
  refine lv_topi (fun x1 ex1 => ?_)
  obtain rfl : x1 = 2 := ex1.trans (by decide)
  refine va_put (D := (dC, dI)) (ci := 4) (v := .int 2) (ty := .int) (C := RX4) (T := TX4) (N := 8) hx hb hts in_X4_addHall_4 tyX4 tyX4_ok nmX4 hown hK hP hD hS 0 rfl rfl 6 (by decide) (hts (.fieldLink RX4 31 "LanternHouse$Rails" "halls" "I") (by decide +kernel)) (fun _ h9 => h9) rfl (by decide +kernel) rfl rfl (by rw [hlaRa]; decide) dX4_addHall_18 (fun H locs hP hD hS => ?_)
  have hP : va_P (dC, dI) vwCl [(aRa, .inr (4, (List.set fsaRa 6 (.int 2))))] H := hP
  have hD : va_D A [(aRa, .inr (4, (List.set fsaRa 6 (.int 2))))] := hD
  refine lv_aload_n hx hb dX4_addHall_21 rfl (lv_at hl 0 rfl) ?_
  refine va_get (D := (dC, dI)) (ci := 4) (v := .int 2) (C := RX4) (T := TX4) (N := 8) hx hb hts in_X4_addHall_4 hown hK hP 0 rfl rfl 6 (by decide) (hts (.fieldLink RX4 31 "LanternHouse$Rails" "halls" "I") (by decide +kernel)) (fun _ h9 => h9) (zset_eq (by rw [hlaRa]; decide)) dX4_addHall_22 ?_
  refine lv_iconst (v := 1) hx hb dX4_addHall_25 (by decide) ?_
  refine lv_isub hx hb dX4_addHall_26 ?_
  refine lv_topi (fun x2 ex2 => ?_)
  obtain rfl : x2 = 1 := ex2.trans (by decide)
  exact W.iret (v := 1) hx hb hr (fun t ht hW => ⟨⟨1, (), rfl, rfl, trivial⟩, hS.F ht⟩) hS.2.2 dX4_addHall_27

abbrev ws_c_isHall (cB cI cJ cZ cQ : ClassId) (aRa : Nat) (iH : Int32) (fsaRa : List Value) : va_W := [(aRa, .inr (4, fsaRa))]
set_option maxHeartbeats 4000000 in
set_option maxRecDepth 100000 in
theorem c_isHall (l : Launch) (dC : Nat → ClassId) (dI : Nat → Nat → Nat) (cB cI cJ cZ cQ : ClassId) (aRa : Nat) (iH : Int32) (fsaRa : List Value) (sz : Nat) (hlaRa : fsaRa.length = 8) (haRa_6 : fsaRa[6]? = some (.int 1)) : Met l yX4_isHall wsX4_isHall ({ frames := 0, cells := 0, slots := 0, locals := 0 } : Room) (zPc [.ref aRa, .int iH] (dC, dI) (zTY cB cI cJ cZ cQ) (ws_c_isHall cB cI cJ cZ cQ aRa iH fsaRa) sz) (va_Qi (fun (zr : Int32) (_ : Unit) => (zr = 1 ∧ iH = 0) ∨ (zr = 0 ∧ ¬ iH = 0)) (fun (_ : Unit) (t : State) => ∃ (gsaRa : List Value), gsaRa.length = 8 ∧ (∀ j : Nat, ¬ j ∈ ([] : List Nat) → gsaRa[j]? = fsaRa[j]?) ∧ va_P (dC, dI) vwCl [(aRa, .inr (4, gsaRa))] t.heap ∧ va_D (va_A (ws_c_isHall cB cI cJ cZ cQ aRa iH fsaRa) sz) [(aRa, .inr (4, gsaRa))]) (va_A (ws_c_isHall cB cI cJ cZ cQ aRa iH fsaRa) sz)) 0 0 (va_A (ws_c_isHall cB cI cJ cZ cQ aRa iH fsaRa) sz) := by
  refine Met.ofW (cc := cX4_isHall) (maxL := 2) (ret := (some .boolean)) (by decide) rfl ?_
  intro p e s m args below meth c s₁ B hml hv
  obtain ⟨rfl, hsz, hP0, hK, hO, hD0⟩ := hv
  have hx := B.exec
  have hb := B.bytes
  have hr := B.returns
  have hts := atoms_spec (ws := wsX4_isHall) B.pre
  have hown : s.vm.findClass RX4 = some m.cls := findClass_of_methodNamed B.named
  have hlocks := B.notSynchronized
  subst hsz
  have hD8 := hD0.self (sz := s.heap.size)
  generalize hAe : va_A (ws_c_isHall cB cI cJ cZ cQ aRa iH fsaRa) s.heap.size = A at hD8 ⊢
  have hA : ∀ q : Nat, s.heap.size ≤ q → A q := fun q h => by rw [← hAe]; exact Or.inr h
  have hS : va_S A s.heap s.heap [] := va_S.rf
  have hP : va_P (dC, dI) vwCl [(aRa, .inr (4, fsaRa))] s.heap := hP0
  have hD : va_D A [(aRa, .inr (4, fsaRa))] := hD8
  have hl := lv_entry ([.ref aRa, .int iH]) (n := 2) (Nat.le_of_ble_eq_true rfl)
  rw [lg_entry_eq]
  generalize (lg_sl ([.ref aRa, .int iH]) ++ List.replicate (2 - (lg_sl ([.ref aRa, .int iH])).length) Slot.unset).toArray = ls at hl ⊢
  have hl : lv_has ls 2 [(0, .ref aRa), (1, .int iH)] := hl
  clear hP0 hD8 hD0
  refine zH0 (fun H hP hS => ?_) hP hS
  refine lv_iload_n hx hb dX4_isHall_0 rfl (lv_at hl 1 rfl) ?_
  refine lv_if_lt (tgt := 16) hx hb dX4_isHall_1 (by decide) (fun c1 => ?_) (fun c1 => ?_)
  · skip
    refine lv_iconst (v := 0) hx hb dX4_isHall_16 (by decide) ?_
    have hP9 : va_P (dC, dI) vwCl [(aRa, .inr (4, fsaRa))] H := hP.sub [0] rfl
    have hD9 : va_D A [(aRa, .inr (4, fsaRa))] := hD.sub [0] (by decide) rfl
    exact W.zret (v := 0) hx hb hr rfl (fun t ht hW => ⟨⟨0, (), rfl, (Or.inr ⟨rfl, (by simp only [Int32.lt_iff_toInt_lt, Int32.le_iff_toInt_le, ← Int32.toInt_inj, zi_m1, zi_0, zi_1, zi_6, zi_8, zi_16, zi_20, zi_23, zi_24, zi_27, zi_29, zi_30, zi_40, zi_500, zi_700, zi_1000] at c1 ⊢<;> omega)⟩), ⟨fsaRa, hlaRa, (fun j hj => rfl), by rw [ht]; exact hP9, hD9⟩⟩, hS.F ht⟩) hS.2.2 dX4_isHall_17
  · skip
    refine lv_iload_n hx hb dX4_isHall_4 rfl (lv_at hl 1 rfl) ?_
    refine lv_aload_n hx hb dX4_isHall_5 rfl (lv_at hl 0 rfl) ?_
    refine va_get (D := (dC, dI)) (ci := 4) (v := .int 1) (C := RX4) (T := TX4) (N := 8) hx hb hts in_X4_isHall_4 hown hK hP 0 rfl rfl 6 (by decide) (hts (.fieldLink RX4 31 "LanternHouse$Rails" "halls" "I") (by decide +kernel)) (fun _ h9 => h9) haRa_6 dX4_isHall_6 ?_
    refine lv_icmp_ge (tgt := 16) hx hb dX4_isHall_9 (by decide) (fun c2 => ?_) (fun c2 => ?_)
    · skip
      refine lv_iconst (v := 0) hx hb dX4_isHall_16 (by decide) ?_
      have hP9 : va_P (dC, dI) vwCl [(aRa, .inr (4, fsaRa))] H := hP.sub [0] rfl
      have hD9 : va_D A [(aRa, .inr (4, fsaRa))] := hD.sub [0] (by decide) rfl
      exact W.zret (v := 0) hx hb hr rfl (fun t ht hW => ⟨⟨0, (), rfl, (Or.inr ⟨rfl, (by simp only [Int32.lt_iff_toInt_lt, Int32.le_iff_toInt_le, ← Int32.toInt_inj, zi_m1, zi_0, zi_1, zi_6, zi_8, zi_16, zi_20, zi_23, zi_24, zi_27, zi_29, zi_30, zi_40, zi_500, zi_700, zi_1000] at c1 c2 ⊢<;> omega)⟩), ⟨fsaRa, hlaRa, (fun j hj => rfl), by rw [ht]; exact hP9, hD9⟩⟩, hS.F ht⟩) hS.2.2 dX4_isHall_17
    · skip
      have ziH : iH = 0 := z_inj (by simp only [Int32.lt_iff_toInt_lt, Int32.le_iff_toInt_le, ← Int32.toInt_inj, zi_m1, zi_0, zi_1, zi_6, zi_8, zi_16, zi_20, zi_23, zi_24, zi_27, zi_29, zi_30, zi_40, zi_500, zi_700, zi_1000] at c1 c2 ⊢<;> omega)
      subst ziH
      refine lv_iconst (v := 1) hx hb dX4_isHall_12 (by decide) ?_
      refine lv_goto (tgt := 17) hx hb dX4_isHall_13 (by decide) ?_
      have hP9 : va_P (dC, dI) vwCl [(aRa, .inr (4, fsaRa))] H := hP.sub [0] rfl
      have hD9 : va_D A [(aRa, .inr (4, fsaRa))] := hD.sub [0] (by decide) rfl
      exact W.zret (v := 1) hx hb hr rfl (fun t ht hW => ⟨⟨1, (), rfl, (Or.inl ⟨rfl, (by decide)⟩), ⟨fsaRa, hlaRa, (fun j hj => rfl), by rw [ht]; exact hP9, hD9⟩⟩, hS.F ht⟩) hS.2.2 dX4_isHall_17

abbrev ws_c_addTrain (cB cI cJ cZ cQ : ClassId) (aRa : Nat) (iFr : Int32) (iTo : Int32) (iHr : Int32) (iTa : Int32) (fsaRa : List Value) : va_W := [(aRa, .inr (4, fsaRa))]
set_option maxHeartbeats 4000000 in
set_option maxRecDepth 100000 in
theorem c_addTrain (l : Launch) (dC : Nat → ClassId) (dI : Nat → Nat → Nat) (cB cI cJ cZ cQ : ClassId) (aRa : Nat) (iFr : Int32) (iTo : Int32) (iHr : Int32) (iTa : Int32) (fsaRa : List Value) (sz : Nat) (hlaRa : fsaRa.length = 8) (haRa_6 : fsaRa[6]? = some (.int 1)) (haRa_7 : fsaRa[7]? = some (.int 0)) : Met l yX4_addTrain wsX4_addTrain ({ frames := 1, cells := 0, slots := 0, locals := 21 } : Room) (zPc [.ref aRa, .int iFr, .int iTo, .int iHr, .int iTa] (dC, dI) (zTY cB cI cJ cZ cQ) (ws_c_addTrain cB cI cJ cZ cQ aRa iFr iTo iHr iTa fsaRa) sz) (va_Qi (fun (zr : Int32) (_ : Unit) => zr = (-1)) (fun (_ : Unit) (_ : State) => True) (va_A (ws_c_addTrain cB cI cJ cZ cQ aRa iFr iTo iHr iTa fsaRa) sz)) 0 0 (va_A (ws_c_addTrain cB cI cJ cZ cQ aRa iFr iTo iHr iTa fsaRa) sz) := by
  refine Met.ofW (cc := cX4_addTrain) (maxL := 5) (ret := (some .int)) (by decide) rfl ?_
  intro p e s m args below meth c s₁ B hml hv
  obtain ⟨rfl, hsz, hP0, hK, hO, hD0⟩ := hv
  have hx := B.exec
  have hb := B.bytes
  have hr := B.returns
  have hts := atoms_spec (ws := wsX4_addTrain) B.pre
  have hown : s.vm.findClass RX4 = some m.cls := findClass_of_methodNamed B.named
  have hlocks := B.notSynchronized
  subst hsz
  have hD8 := hD0.self (sz := s.heap.size)
  generalize hAe : va_A (ws_c_addTrain cB cI cJ cZ cQ aRa iFr iTo iHr iTa fsaRa) s.heap.size = A at hD8 ⊢
  have hA : ∀ q : Nat, s.heap.size ≤ q → A q := fun q h => by rw [← hAe]; exact Or.inr h
  have hS : va_S A s.heap s.heap [] := va_S.rf
  have hP : va_P (dC, dI) vwCl [(aRa, .inr (4, fsaRa))] s.heap := hP0
  have hD : va_D A [(aRa, .inr (4, fsaRa))] := hD8
  have hl := lv_entry ([.ref aRa, .int iFr, .int iTo, .int iHr, .int iTa]) (n := 5) (Nat.le_of_ble_eq_true rfl)
  rw [lg_entry_eq]
  generalize (lg_sl ([.ref aRa, .int iFr, .int iTo, .int iHr, .int iTa]) ++ List.replicate (5 - (lg_sl ([.ref aRa, .int iFr, .int iTo, .int iHr, .int iTa])).length) Slot.unset).toArray = ls at hl ⊢
  have hl : lv_has ls 5 [(0, .ref aRa), (1, .int iFr), (2, .int iTo), (3, .int iHr), (4, .int iTa)] := hl
  clear hP0 hD8 hD0
  refine zH0 (fun H hP hS => ?_) hP hS
  refine lv_aload_n hx hb dX4_addTrain_0 rfl (lv_at hl 0 rfl) ?_
  refine va_get (D := (dC, dI)) (ci := 4) (v := .int 0) (C := RX4) (T := TX4) (N := 8) hx hb hts in_X4_addTrain_4 hown hK hP 0 rfl rfl 7 (by decide) (hts (.fieldLink RX4 35 "LanternHouse$Rails" "trains" "I") (by decide +kernel)) (fun _ h9 => h9) haRa_7 dX4_addTrain_1 ?_
  refine lv_bipush (v := 16) hx hb dX4_addTrain_4 (by decide) ?_
  refine lv_icmp_ge (tgt := 30) hx hb dX4_addTrain_6 (by decide) (fun zc => absurd zc (by decide)) (fun _ => ?_)
  refine lv_aload_n hx hb dX4_addTrain_9 rfl (lv_at hl 0 rfl) ?_
  refine lv_iload_n hx hb dX4_addTrain_10 rfl (lv_at hl 1 rfl) ?_
  have hPc : va_P (dC, dI) vwCl (ws_c_isHall cB cI cJ cZ cQ aRa iFr fsaRa) H := hP.sub [0] rfl
  have hDc := hD.sub (ws' := (ws_c_isHall cB cI cJ cZ cQ aRa iFr fsaRa)) [0] (by decide) rfl
  have hFc := va_free (wc := (ws_c_isHall cB cI cJ cZ cQ aRa iFr fsaRa)) hD hS hA [0] rfl
  refine va_calli (va_runV (As := [.int iFr]) (rest := []) ⟨hx, hb, hml, hown, hts⟩ (c_isHall l dC dI cB cI cJ cZ cQ aRa iFr fsaRa H.size hlaRa haRa_6) (cwV 1 hts gX4_addTrain_X4_isHall rfl rfl rfl (by decide +kernel) ⟨Nat.le_of_ble_eq_true rfl, Nat.le_of_ble_eq_true rfl⟩) ⟨zFB, va_recv hK hP (ci := 4) (q0 := 0) rfl rfl, fun U hU hW => zUp hU hW hPc hK hO hDc⟩ rfl rfl hl.1 rfl (lv_room (Nat.le_of_ble_eq_true rfl)) dX4_addTrain_11 ⟨Nat.le_of_ble_eq_true rfl, Nat.le_of_ble_eq_true rfl⟩) hS (fun q _ h => hFc q h) hFc (fun r1 u t H1 locs ht hvm hw2 hB hz1 hk1 hS => ?_)
  obtain ⟨gs3, hgl4, hgf5, hP1, hD1⟩ := hB
  rw [ht] at hP1
  obtain ⟨hP, hD⟩ := va_join (wr := []) (w1 := [(aRa, .inr (4, gs3))]) hP hD [0] [] rfl rfl (by decide) (by decide) hk1 hFc hP1 hD1
  generalize H1 = H at hP hS ⊢
  have hP : va_P (dC, dI) vwCl [(aRa, .inr (4, gs3))] H := hP
  have hD : va_D A [(aRa, .inr (4, gs3))] := hD
  rcases hw2 with ⟨rfl, c6⟩ | ⟨rfl, c7⟩
  · skip
    have ziFr : iFr = 0 := z_inj (by simp only [Int32.lt_iff_toInt_lt, Int32.le_iff_toInt_le, ← Int32.toInt_inj, zi_m1, zi_0, zi_1, zi_6, zi_8, zi_16, zi_20, zi_23, zi_24, zi_27, zi_29, zi_30, zi_40, zi_500, zi_700, zi_1000] at c6 ⊢<;> omega)
    subst ziFr
    refine lv_if_eq (tgt := 30) hx hb dX4_addTrain_14 (by decide) (fun zc => absurd zc (by decide)) (fun _ => ?_)
    refine lv_aload_n hx hb dX4_addTrain_17 rfl (lv_at hl 0 rfl) ?_
    refine lv_iload_n hx hb dX4_addTrain_18 rfl (lv_at hl 2 rfl) ?_
    have hPc : va_P (dC, dI) vwCl (ws_c_isHall cB cI cJ cZ cQ aRa iTo gs3) H := hP.sub [0] rfl
    have hDc := hD.sub (ws' := (ws_c_isHall cB cI cJ cZ cQ aRa iTo gs3)) [0] (by decide) rfl
    have hFc := va_free (wc := (ws_c_isHall cB cI cJ cZ cQ aRa iTo gs3)) hD hS hA [0] rfl
    refine va_calli (va_runV (As := [.int iTo]) (rest := []) ⟨hx, hb, hml, hown, hts⟩ (c_isHall l dC dI cB cI cJ cZ cQ aRa iTo gs3 H.size hgl4 ((hgf5 6 (by decide)).trans haRa_6)) (cwV 1 hts gX4_addTrain_X4_isHall rfl rfl rfl (by decide +kernel) ⟨Nat.le_of_ble_eq_true rfl, Nat.le_of_ble_eq_true rfl⟩) ⟨zFB, va_recv hK hP (ci := 4) (q0 := 0) rfl rfl, fun U hU hW => zUp hU hW hPc hK hO hDc⟩ rfl rfl hl.1 rfl (lv_room (Nat.le_of_ble_eq_true rfl)) dX4_addTrain_19 ⟨Nat.le_of_ble_eq_true rfl, Nat.le_of_ble_eq_true rfl⟩) hS (fun q _ h => hFc q h) hFc (fun r8 u t H1 locs ht hvm hw9 hB hz1 hk1 hS => ?_)
    obtain ⟨gs10, hgl11, hgf12, hP1, hD1⟩ := hB
    rw [ht] at hP1
    obtain ⟨hP, hD⟩ := va_join (wr := []) (w1 := [(aRa, .inr (4, gs10))]) hP hD [0] [] rfl rfl (by decide) (by decide) hk1 hFc hP1 hD1
    generalize H1 = H at hP hS ⊢
    have hP : va_P (dC, dI) vwCl [(aRa, .inr (4, gs10))] H := hP
    have hD : va_D A [(aRa, .inr (4, gs10))] := hD
    rcases hw9 with ⟨rfl, c13⟩ | ⟨rfl, c14⟩
    · skip
      have ziTo : iTo = 0 := z_inj (by simp only [Int32.lt_iff_toInt_lt, Int32.le_iff_toInt_le, ← Int32.toInt_inj, zi_m1, zi_0, zi_1, zi_6, zi_8, zi_16, zi_20, zi_23, zi_24, zi_27, zi_29, zi_30, zi_40, zi_500, zi_700, zi_1000] at c6 c13 ⊢<;> omega)
      subst ziTo
      refine lv_if_eq (tgt := 30) hx hb dX4_addTrain_22 (by decide) (fun zc => absurd zc (by decide)) (fun _ => ?_)
      refine lv_iload_n hx hb dX4_addTrain_25 rfl (lv_at hl 1 rfl) ?_
      refine lv_iload_n hx hb dX4_addTrain_26 rfl (lv_at hl 2 rfl) ?_
      refine lv_icmp_ne (tgt := 32) hx hb dX4_addTrain_27 (by decide) (fun zc => absurd zc (by decide)) (fun _ => ?_)
      refine lv_iconst (v := (-1)) hx hb dX4_addTrain_30 (by decide) ?_
      exact W.iret (v := (-1)) hx hb hr (fun t ht hW => ⟨⟨(-1), (), rfl, rfl, trivial⟩, hS.F ht⟩) hS.2.2 dX4_addTrain_31
    · skip
      refine lv_if_eq (tgt := 30) hx hb dX4_addTrain_22 (by decide) (fun _ => ?_) (fun zc => absurd zc (by decide))
      refine lv_iconst (v := (-1)) hx hb dX4_addTrain_30 (by decide) ?_
      exact W.iret (v := (-1)) hx hb hr (fun t ht hW => ⟨⟨(-1), (), rfl, rfl, trivial⟩, hS.F ht⟩) hS.2.2 dX4_addTrain_31
  · skip
    refine lv_if_eq (tgt := 30) hx hb dX4_addTrain_14 (by decide) (fun _ => ?_) (fun zc => absurd zc (by decide))
    refine lv_iconst (v := (-1)) hx hb dX4_addTrain_30 (by decide) ?_
    exact W.iret (v := (-1)) hx hb hr (fun t ht hW => ⟨⟨(-1), (), rfl, rfl, trivial⟩, hS.F ht⟩) hS.2.2 dX4_addTrain_31

