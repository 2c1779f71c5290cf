def zs_c_addHall : List Cond := .code yX4_addHall cX4_addHall 1 (some .int) :: (([.fieldLink RX4 31 "LanternHouse$Rails" "halls" "I"] : List Cond) ++ (wsX40 ++ []))
theorem gd_c_addHall : (zs_c_addHall).all goodWord = true := by decide +kernel
theorem in_c_addHall_4 : ∀ w ∈ wsX40, w ∈ zs_c_addHall := fun w h => List.mem_cons_of_mem _ (List.mem_append_right _ (List.mem_append_left _ h))
abbrev ws_c_addHall (cB cI cJ cZ cQ : ClassId) (aRa : Nat) (fsaRa : List Value) : va_W := [(aRa, .inr (4, fsaRa))]
set_option maxHeartbeats 4000000 in
set_option maxRecDepth 100000 in
theorem c_addHall (l : Launch) (dC : Nat → ClassId) (dI : Nat → Nat → Nat) (cB cI cJ cZ cQ : ClassId) (aRa : Nat) (fsaRa : List Value) (sz : Nat) (hlaRa : fsaRa.length = 8) (haRa_6 : fsaRa[6]? = some (.int 1)) : Met l yX4_addHall zs_c_addHall ({ frames := 0, cells := 0, slots := 0, locals := 0 } : Room) (zPc [.ref aRa] (dC, dI) (zTY cB cI cJ cZ cQ) (ws_c_addHall cB cI cJ cZ cQ aRa fsaRa) sz) (va_Qi (fun (zr : Int32) (_ : Unit) => zr = 1) (fun (_ : Unit) (_ : State) => True) (va_A (ws_c_addHall cB cI cJ cZ cQ aRa fsaRa) sz)) 0 0 (va_A (ws_c_addHall cB cI cJ cZ cQ aRa fsaRa) sz) := by
  refine Met.ofW (cc := cX4_addHall) (maxL := 1) (ret := (some .int)) (by decide) rfl ?_
  intro p e s m args below meth c s₁ B hml hv
  obtain ⟨rfl, hsz, hP0, hK, hO, hD0⟩ := hv
  have hx := B.exec
  have hb := B.bytes
  have hr := B.returns
  have hts := atoms_spec (ws := zs_c_addHall) B.pre
  have hown : s.vm.findClass RX4 = some m.cls := findClass_of_methodNamed B.named
  have hlocks := B.notSynchronized
  subst hsz
  have hD8 := hD0.self (sz := s.heap.size)
  generalize hAe : va_A (ws_c_addHall cB cI cJ cZ cQ aRa fsaRa) s.heap.size = A at hD8 ⊢
  have hA : ∀ q : Nat, s.heap.size ≤ q → A q := fun q h => by rw [← hAe]; exact Or.inr h
  have hS : va_S A s.heap s.heap [] := va_S.rf
  have hP : va_P (dC, dI) vwCl [(aRa, .inr (4, fsaRa))] s.heap := hP0
  have hD : va_D A [(aRa, .inr (4, fsaRa))] := hD8
  have hl := lv_entry ([.ref aRa]) (n := 1) (Nat.le_of_ble_eq_true rfl)
  rw [lg_entry_eq]
  generalize (lg_sl ([.ref aRa]) ++ List.replicate (1 - (lg_sl ([.ref aRa])).length) Slot.unset).toArray = ls at hl ⊢
  have hl : lv_has ls 1 [(0, .ref aRa)] := hl
  clear hP0 hD8 hD0
  refine zH0 (fun H hP hS => ?_) hP hS
  refine lv_aload_n hx hb dX4_addHall_0 rfl (lv_at hl 0 rfl) ?_
  refine va_get (D := (dC, dI)) (ci := 4) (v := .int 1) (C := RX4) (T := TX4) (N := 8) hx hb hts in_c_addHall_4 hown hK hP 0 rfl rfl 6 (by decide) (hts (.fieldLink RX4 31 "LanternHouse$Rails" "halls" "I") (by decide +kernel)) (fun _ h9 => h9) haRa_6 dX4_addHall_1 ?_
  refine lv_bipush (v := 6) hx hb dX4_addHall_4 (by decide) ?_
  refine lv_icmp_lt (tgt := 11) hx hb dX4_addHall_6 (by decide) (fun _ => ?_) (fun zc => absurd zc (by decide))
  refine lv_aload_n hx hb dX4_addHall_11 rfl (lv_at hl 0 rfl) ?_
  refine lv_dup hx hb dX4_addHall_12 rfl ?_
  refine va_get (D := (dC, dI)) (ci := 4) (v := .int 1) (C := RX4) (T := TX4) (N := 8) hx hb hts in_c_addHall_4 hown hK hP 0 rfl rfl 6 (by decide) (hts (.fieldLink RX4 31 "LanternHouse$Rails" "halls" "I") (by decide +kernel)) (fun _ h9 => h9) haRa_6 dX4_addHall_13 ?_
  refine lv_iconst (v := 1) hx hb dX4_addHall_16 (by decide) ?_
  refine lv_iadd hx hb dX4_addHall_17 ?_
  refine lv_topi (fun x1 ex1 => ?_)
  obtain rfl : x1 = 2 := ex1.trans (by decide)
  refine va_put (D := (dC, dI)) (ci := 4) (v := .int 2) (ty := .int) (C := RX4) (T := TX4) (N := 8) hx hb hts in_c_addHall_4 tyX4 tyX4_ok nmX4 hown hK hP hD hS 0 rfl rfl 6 (by decide) (hts (.fieldLink RX4 31 "LanternHouse$Rails" "halls" "I") (by decide +kernel)) (fun _ h9 => h9) rfl (by decide +kernel) rfl rfl (by rw [hlaRa]; decide) dX4_addHall_18 (fun H locs hP hD hS => ?_)
  have hP : va_P (dC, dI) vwCl [(aRa, .inr (4, (List.set fsaRa 6 (.int 2))))] H := hP
  have hD : va_D A [(aRa, .inr (4, (List.set fsaRa 6 (.int 2))))] := hD
  refine lv_aload_n hx hb dX4_addHall_21 rfl (lv_at hl 0 rfl) ?_
  refine va_get (D := (dC, dI)) (ci := 4) (v := .int 2) (C := RX4) (T := TX4) (N := 8) hx hb hts in_c_addHall_4 hown hK hP 0 rfl rfl 6 (by decide) (hts (.fieldLink RX4 31 "LanternHouse$Rails" "halls" "I") (by decide +kernel)) (fun _ h9 => h9) (zset_eq (by rw [hlaRa]; decide)) dX4_addHall_22 ?_
  refine lv_iconst (v := 1) hx hb dX4_addHall_25 (by decide) ?_
  refine lv_isub hx hb dX4_addHall_26 ?_
  refine lv_topi (fun x2 ex2 => ?_)
  obtain rfl : x2 = 1 := ex2.trans (by decide)
  exact W.iret (v := 1) hx hb hr (fun t ht hW => ⟨⟨1, (), rfl, rfl, trivial⟩, hS.F ht⟩) hS.2.2 dX4_addHall_27

def zs_c_isHall : List Cond := .code yX4_isHall cX4_isHall 2 (some .boolean) :: (([.fieldLink RX4 31 "LanternHouse$Rails" "halls" "I"] : List Cond) ++ (wsX40 ++ []))
theorem gd_c_isHall : (zs_c_isHall).all goodWord = true := by decide +kernel
theorem in_c_isHall_4 : ∀ w ∈ wsX40, w ∈ zs_c_isHall := fun w h => List.mem_cons_of_mem _ (List.mem_append_right _ (List.mem_append_left _ h))
abbrev ws_c_isHall (cB cI cJ cZ cQ : ClassId) (aRa : Nat) (iH : Int32) (fsaRa : List Value) : va_W := [(aRa, .inr (4, fsaRa))]
set_option maxHeartbeats 4000000 in
set_option maxRecDepth 100000 in
theorem c_isHall (l : Launch) (dC : Nat → ClassId) (dI : Nat → Nat → Nat) (cB cI cJ cZ cQ : ClassId) (aRa : Nat) (iH : Int32) (fsaRa : List Value) (sz : Nat) (hlaRa : fsaRa.length = 8) (haRa_6 : fsaRa[6]? = some (.int 1)) : Met l yX4_isHall zs_c_isHall ({ frames := 0, cells := 0, slots := 0, locals := 0 } : Room) (zPc [.ref aRa, .int iH] (dC, dI) (zTY cB cI cJ cZ cQ) (ws_c_isHall cB cI cJ cZ cQ aRa iH fsaRa) sz) (va_Qi (fun (zr : Int32) (_ : Unit) => (zr = 1 ∧ iH = 0) ∨ (zr = 0 ∧ ¬ iH = 0)) (fun (_ : Unit) (t : State) => ∃ (gsaRa : List Value), gsaRa.length = 8 ∧ (∀ j : Nat, ¬ j ∈ ([] : List Nat) → gsaRa[j]? = fsaRa[j]?) ∧ va_P (dC, dI) vwCl [(aRa, .inr (4, gsaRa))] t.heap ∧ va_D (va_A (ws_c_isHall cB cI cJ cZ cQ aRa iH fsaRa) sz) [(aRa, .inr (4, gsaRa))]) (va_A (ws_c_isHall cB cI cJ cZ cQ aRa iH fsaRa) sz)) 0 0 (va_A (ws_c_isHall cB cI cJ cZ cQ aRa iH fsaRa) sz) := by
  refine Met.ofW (cc := cX4_isHall) (maxL := 2) (ret := (some .boolean)) (by decide) rfl ?_
  intro p e s m args below meth c s₁ B hml hv
  obtain ⟨rfl, hsz, hP0, hK, hO, hD0⟩ := hv
  have hx := B.exec
  have hb := B.bytes
  have hr := B.returns
  have hts := atoms_spec (ws := zs_c_isHall) B.pre
  have hown : s.vm.findClass RX4 = some m.cls := findClass_of_methodNamed B.named
  have hlocks := B.notSynchronized
  subst hsz
  have hD8 := hD0.self (sz := s.heap.size)
  generalize hAe : va_A (ws_c_isHall cB cI cJ cZ cQ aRa iH fsaRa) s.heap.size = A at hD8 ⊢
  have hA : ∀ q : Nat, s.heap.size ≤ q → A q := fun q h => by rw [← hAe]; exact Or.inr h
  have hS : va_S A s.heap s.heap [] := va_S.rf
  have hP : va_P (dC, dI) vwCl [(aRa, .inr (4, fsaRa))] s.heap := hP0
  have hD : va_D A [(aRa, .inr (4, fsaRa))] := hD8
  have hl := lv_entry ([.ref aRa, .int iH]) (n := 2) (Nat.le_of_ble_eq_true rfl)
  rw [lg_entry_eq]
  generalize (lg_sl ([.ref aRa, .int iH]) ++ List.replicate (2 - (lg_sl ([.ref aRa, .int iH])).length) Slot.unset).toArray = ls at hl ⊢
  have hl : lv_has ls 2 [(0, .ref aRa), (1, .int iH)] := hl
  clear hP0 hD8 hD0
  refine zH0 (fun H hP hS => ?_) hP hS
  refine lv_iload_n hx hb dX4_isHall_0 rfl (lv_at hl 1 rfl) ?_
  refine lv_if_lt (tgt := 16) hx hb dX4_isHall_1 (by decide) (fun c1 => ?_) (fun c1 => ?_)
  · skip
    refine lv_iconst (v := 0) hx hb dX4_isHall_16 (by decide) ?_
    have hP9 : va_P (dC, dI) vwCl [(aRa, .inr (4, fsaRa))] H := hP.sub [0] rfl
    have hD9 : va_D A [(aRa, .inr (4, fsaRa))] := hD.sub [0] (by decide) rfl
    exact W.zret (v := 0) hx hb hr rfl (fun t ht hW => ⟨⟨0, (), rfl, (Or.inr ⟨rfl, (by simp only [Int32.lt_iff_toInt_lt, Int32.le_iff_toInt_le, ← Int32.toInt_inj, zi_m1, zi_0, zi_1, zi_6, zi_8, zi_M, zi_16, zi_20, zi_23, zi_24, zi_27, zi_29, zi_30, zi_40, zi_500, zi_700, zi_1000] at c1 ⊢<;> omega)⟩), ⟨fsaRa, hlaRa, (fun j hj => rfl), by rw [ht]; exact hP9, hD9⟩⟩, hS.F ht⟩) hS.2.2 dX4_isHall_17
  · skip
    refine lv_iload_n hx hb dX4_isHall_4 rfl (lv_at hl 1 rfl) ?_
    refine lv_aload_n hx hb dX4_isHall_5 rfl (lv_at hl 0 rfl) ?_
    refine va_get (D := (dC, dI)) (ci := 4) (v := .int 1) (C := RX4) (T := TX4) (N := 8) hx hb hts in_c_isHall_4 hown hK hP 0 rfl rfl 6 (by decide) (hts (.fieldLink RX4 31 "LanternHouse$Rails" "halls" "I") (by decide +kernel)) (fun _ h9 => h9) haRa_6 dX4_isHall_6 ?_
    refine lv_icmp_ge (tgt := 16) hx hb dX4_isHall_9 (by decide) (fun c2 => ?_) (fun c2 => ?_)
    · skip
      refine lv_iconst (v := 0) hx hb dX4_isHall_16 (by decide) ?_
      have hP9 : va_P (dC, dI) vwCl [(aRa, .inr (4, fsaRa))] H := hP.sub [0] rfl
      have hD9 : va_D A [(aRa, .inr (4, fsaRa))] := hD.sub [0] (by decide) rfl
      exact W.zret (v := 0) hx hb hr rfl (fun t ht hW => ⟨⟨0, (), rfl, (Or.inr ⟨rfl, (by simp only [Int32.lt_iff_toInt_lt, Int32.le_iff_toInt_le, ← Int32.toInt_inj, zi_m1, zi_0, zi_1, zi_6, zi_8, zi_M, zi_16, zi_20, zi_23, zi_24, zi_27, zi_29, zi_30, zi_40, zi_500, zi_700, zi_1000] at c1 c2 ⊢<;> omega)⟩), ⟨fsaRa, hlaRa, (fun j hj => rfl), by rw [ht]; exact hP9, hD9⟩⟩, hS.F ht⟩) hS.2.2 dX4_isHall_17
    · skip
      have ziH : iH = 0 := z_inj (by simp only [Int32.lt_iff_toInt_lt, Int32.le_iff_toInt_le, ← Int32.toInt_inj, zi_m1, zi_0, zi_1, zi_6, zi_8, zi_M, zi_16, zi_20, zi_23, zi_24, zi_27, zi_29, zi_30, zi_40, zi_500, zi_700, zi_1000] at c1 c2 ⊢<;> omega)
      subst ziH
      refine lv_iconst (v := 1) hx hb dX4_isHall_12 (by decide) ?_
      refine lv_goto (tgt := 17) hx hb dX4_isHall_13 (by decide) ?_
      have hP9 : va_P (dC, dI) vwCl [(aRa, .inr (4, fsaRa))] H := hP.sub [0] rfl
      have hD9 : va_D A [(aRa, .inr (4, fsaRa))] := hD.sub [0] (by decide) rfl
      exact W.zret (v := 1) hx hb hr rfl (fun t ht hW => ⟨⟨1, (), rfl, (Or.inl ⟨rfl, (by decide)⟩), ⟨fsaRa, hlaRa, (fun j hj => rfl), by rw [ht]; exact hP9, hD9⟩⟩, hS.F ht⟩) hS.2.2 dX4_isHall_17

def zs_c_addTrain : List Cond := .code yX4_addTrain cX4_addTrain 5 (some .int) :: (([.fieldLink RX4 35 "LanternHouse$Rails" "trains" "I", .methodLink RX4 38 yX4_isHall, .instanceMethod yX4_isHall, .selects RX4 yX4_isHall yX4_isHall, .initialized RX4] : List Cond) ++ (zs_c_isHall ++ (wsX40 ++ [])))
theorem gd_c_addTrain : (zs_c_addTrain).all goodWord = true := by decide +kernel
theorem in_c_addTrain_4 : ∀ w ∈ wsX40, w ∈ zs_c_addTrain := fun w h => List.mem_cons_of_mem _ (List.mem_append_right _ (List.mem_append_right _ (List.mem_append_left _ h)))
theorem g_c_addTrain_c_isHall_38 : GoodIn zs_c_addTrain (wsV RX4 38 RX4 yX4_isHall zs_c_isHall) := goodIn_app (goodIn_of _ (by decide +kernel)) (goodIn_sub (fun w h => List.mem_cons_of_mem _ (List.mem_append_right _ (List.mem_append_left _ h))) gd_c_isHall)
abbrev ws_c_addTrain (cB cI cJ cZ cQ : ClassId) (aRa : Nat) (iFr : Int32) (iTo : Int32) (iHr : Int32) (iTa : Int32) (fsaRa : List Value) : va_W := [(aRa, .inr (4, fsaRa))]
set_option maxHeartbeats 4000000 in
set_option maxRecDepth 100000 in
theorem c_addTrain (l : Launch) (dC : Nat → ClassId) (dI : Nat → Nat → Nat) (cB cI cJ cZ cQ : ClassId) (aRa : Nat) (iFr : Int32) (iTo : Int32) (iHr : Int32) (iTa : Int32) (fsaRa : List Value) (sz : Nat) (hlaRa : fsaRa.length = 8) (haRa_6 : fsaRa[6]? = some (.int 1)) (haRa_7 : fsaRa[7]? = some (.int 0)) : Met l yX4_addTrain zs_c_addTrain ({ frames := 1, cells := 0, slots := 0, locals := 21 } : Room) (zPc [.ref aRa, .int iFr, .int iTo, .int iHr, .int iTa] (dC, dI) (zTY cB cI cJ cZ cQ) (ws_c_addTrain cB cI cJ cZ cQ aRa iFr iTo iHr iTa fsaRa) sz) (va_Qi (fun (zr : Int32) (_ : Unit) => zr = (-1)) (fun (_ : Unit) (_ : State) => True) (va_A (ws_c_addTrain cB cI cJ cZ cQ aRa iFr iTo iHr iTa fsaRa) sz)) 0 0 (va_A (ws_c_addTrain cB cI cJ cZ cQ aRa iFr iTo iHr iTa fsaRa) sz) := by
  refine Met.ofW (cc := cX4_addTrain) (maxL := 5) (ret := (some .int)) (by decide) rfl ?_
  intro p e s m args below meth c s₁ B hml hv
  obtain ⟨rfl, hsz, hP0, hK, hO, hD0⟩ := hv
  have hx := B.exec
  have hb := B.bytes
  have hr := B.returns
  have hts := atoms_spec (ws := zs_c_addTrain) B.pre
  have hown : s.vm.findClass RX4 = some m.cls := findClass_of_methodNamed B.named
  have hlocks := B.notSynchronized
  subst hsz
  have hD8 := hD0.self (sz := s.heap.size)
  generalize hAe : va_A (ws_c_addTrain cB cI cJ cZ cQ aRa iFr iTo iHr iTa fsaRa) s.heap.size = A at hD8 ⊢
  have hA : ∀ q : Nat, s.heap.size ≤ q → A q := fun q h => by rw [← hAe]; exact Or.inr h
  have hS : va_S A s.heap s.heap [] := va_S.rf
  have hP : va_P (dC, dI) vwCl [(aRa, .inr (4, fsaRa))] s.heap := hP0
  have hD : va_D A [(aRa, .inr (4, fsaRa))] := hD8
  have hl := lv_entry ([.ref aRa, .int iFr, .int iTo, .int iHr, .int iTa]) (n := 5) (Nat.le_of_ble_eq_true rfl)
  rw [lg_entry_eq]
  generalize (lg_sl ([.ref aRa, .int iFr, .int iTo, .int iHr, .int iTa]) ++ List.replicate (5 - (lg_sl ([.ref aRa, .int iFr, .int iTo, .int iHr, .int iTa])).length) Slot.unset).toArray = ls at hl ⊢
  have hl : lv_has ls 5 [(0, .ref aRa), (1, .int iFr), (2, .int iTo), (3, .int iHr), (4, .int iTa)] := hl
  clear hP0 hD8 hD0
  refine zH0 (fun H hP hS => ?_) hP hS
  refine lv_aload_n hx hb dX4_addTrain_0 rfl (lv_at hl 0 rfl) ?_
  refine va_get (D := (dC, dI)) (ci := 4) (v := .int 0) (C := RX4) (T := TX4) (N := 8) hx hb hts in_c_addTrain_4 hown hK hP 0 rfl rfl 7 (by decide) (hts (.fieldLink RX4 35 "LanternHouse$Rails" "trains" "I") (by decide +kernel)) (fun _ h9 => h9) haRa_7 dX4_addTrain_1 ?_
  refine lv_bipush (v := 16) hx hb dX4_addTrain_4 (by decide) ?_
  refine lv_icmp_ge (tgt := 30) hx hb dX4_addTrain_6 (by decide) (fun zc => absurd zc (by decide)) (fun _ => ?_)
  refine lv_aload_n hx hb dX4_addTrain_9 rfl (lv_at hl 0 rfl) ?_
  refine lv_iload_n hx hb dX4_addTrain_10 rfl (lv_at hl 1 rfl) ?_
  have hPc : va_P (dC, dI) vwCl (ws_c_isHall cB cI cJ cZ cQ aRa iFr fsaRa) H := hP.sub [0] rfl
  have hDc := hD.sub (ws' := (ws_c_isHall cB cI cJ cZ cQ aRa iFr fsaRa)) [0] (by decide) rfl
  have hFc := va_free (wc := (ws_c_isHall cB cI cJ cZ cQ aRa iFr fsaRa)) hD hS hA [0] rfl
  refine va_calli (va_runV (As := [.int iFr]) (rest := []) ⟨hx, hb, hml, hown, hts⟩ (c_isHall l dC dI cB cI cJ cZ cQ aRa iFr fsaRa H.size hlaRa haRa_6) (cwV 1 hts g_c_addTrain_c_isHall_38 rfl rfl rfl (by decide +kernel) ⟨Nat.le_of_ble_eq_true rfl, Nat.le_of_ble_eq_true rfl⟩) ⟨zFB, va_recv hK hP (ci := 4) (q0 := 0) rfl rfl, fun U hU hW => zUp hU hW hPc hK hO hDc⟩ rfl rfl hl.1 rfl (lv_room (Nat.le_of_ble_eq_true rfl)) dX4_addTrain_11 ⟨Nat.le_of_ble_eq_true rfl, Nat.le_of_ble_eq_true rfl⟩) hS (fun q _ h => hFc q h) hFc (fun r1 u t H1 locs ht hvm hw2 hB hz1 hk1 hS => ?_)
  obtain ⟨gs3, hgl4, hgf5, hP1, hD1⟩ := hB
  rw [ht] at hP1
  obtain ⟨hP, hD⟩ := va_join (wr := []) (w1 := [(aRa, .inr (4, gs3))]) hP hD [0] [] rfl rfl (by decide) (by decide) hk1 hFc hP1 hD1
  generalize H1 = H at hP hS ⊢
  have hP : va_P (dC, dI) vwCl [(aRa, .inr (4, gs3))] H := hP
  have hD : va_D A [(aRa, .inr (4, gs3))] := hD
  rcases hw2 with ⟨rfl, c6⟩ | ⟨rfl, c7⟩
  · skip
    have ziFr : iFr = 0 := z_inj (by simp only [Int32.lt_iff_toInt_lt, Int32.le_iff_toInt_le, ← Int32.toInt_inj, zi_m1, zi_0, zi_1, zi_6, zi_8, zi_M, zi_16, zi_20, zi_23, zi_24, zi_27, zi_29, zi_30, zi_40, zi_500, zi_700, zi_1000] at c6 ⊢<;> omega)
    subst ziFr
    refine lv_if_eq (tgt := 30) hx hb dX4_addTrain_14 (by decide) (fun zc => absurd zc (by decide)) (fun _ => ?_)
    refine lv_aload_n hx hb dX4_addTrain_17 rfl (lv_at hl 0 rfl) ?_
    refine lv_iload_n hx hb dX4_addTrain_18 rfl (lv_at hl 2 rfl) ?_
    have hPc : va_P (dC, dI) vwCl (ws_c_isHall cB cI cJ cZ cQ aRa iTo gs3) H := hP.sub [0] rfl
    have hDc := hD.sub (ws' := (ws_c_isHall cB cI cJ cZ cQ aRa iTo gs3)) [0] (by decide) rfl
    have hFc := va_free (wc := (ws_c_isHall cB cI cJ cZ cQ aRa iTo gs3)) hD hS hA [0] rfl
    refine va_calli (va_runV (As := [.int iTo]) (rest := []) ⟨hx, hb, hml, hown, hts⟩ (c_isHall l dC dI cB cI cJ cZ cQ aRa iTo gs3 H.size hgl4 ((hgf5 6 (by decide)).trans haRa_6)) (cwV 1 hts g_c_addTrain_c_isHall_38 rfl rfl rfl (by decide +kernel) ⟨Nat.le_of_ble_eq_true rfl, Nat.le_of_ble_eq_true rfl⟩) ⟨zFB, va_recv hK hP (ci := 4) (q0 := 0) rfl rfl, fun U hU hW => zUp hU hW hPc hK hO hDc⟩ rfl rfl hl.1 rfl (lv_room (Nat.le_of_ble_eq_true rfl)) dX4_addTrain_19 ⟨Nat.le_of_ble_eq_true rfl, Nat.le_of_ble_eq_true rfl⟩) hS (fun q _ h => hFc q h) hFc (fun r8 u t H1 locs ht hvm hw9 hB hz1 hk1 hS => ?_)
    obtain ⟨gs10, hgl11, hgf12, hP1, hD1⟩ := hB
    rw [ht] at hP1
    obtain ⟨hP, hD⟩ := va_join (wr := []) (w1 := [(aRa, .inr (4, gs10))]) hP hD [0] [] rfl rfl (by decide) (by decide) hk1 hFc hP1 hD1
    generalize H1 = H at hP hS ⊢
    have hP : va_P (dC, dI) vwCl [(aRa, .inr (4, gs10))] H := hP
    have hD : va_D A [(aRa, .inr (4, gs10))] := hD
    rcases hw9 with ⟨rfl, c13⟩ | ⟨rfl, c14⟩
    · skip
      have ziTo : iTo = 0 := z_inj (by simp only [Int32.lt_iff_toInt_lt, Int32.le_iff_toInt_le, ← Int32.toInt_inj, zi_m1, zi_0, zi_1, zi_6, zi_8, zi_M, zi_16, zi_20, zi_23, zi_24, zi_27, zi_29, zi_30, zi_40, zi_500, zi_700, zi_1000] at c6 c13 ⊢<;> omega)
      subst ziTo
      refine lv_if_eq (tgt := 30) hx hb dX4_addTrain_22 (by decide) (fun zc => absurd zc (by decide)) (fun _ => ?_)
      refine lv_iload_n hx hb dX4_addTrain_25 rfl (lv_at hl 1 rfl) ?_
      refine lv_iload_n hx hb dX4_addTrain_26 rfl (lv_at hl 2 rfl) ?_
      refine lv_icmp_ne (tgt := 32) hx hb dX4_addTrain_27 (by decide) (fun zc => absurd zc (by decide)) (fun _ => ?_)
      refine lv_iconst (v := (-1)) hx hb dX4_addTrain_30 (by decide) ?_
      exact W.iret (v := (-1)) hx hb hr (fun t ht hW => ⟨⟨(-1), (), rfl, rfl, trivial⟩, hS.F ht⟩) hS.2.2 dX4_addTrain_31
    · skip
      refine lv_if_eq (tgt := 30) hx hb dX4_addTrain_22 (by decide) (fun _ => ?_) (fun zc => absurd zc (by decide))
      refine lv_iconst (v := (-1)) hx hb dX4_addTrain_30 (by decide) ?_
      exact W.iret (v := (-1)) hx hb hr (fun t ht hW => ⟨⟨(-1), (), rfl, rfl, trivial⟩, hS.F ht⟩) hS.2.2 dX4_addTrain_31
  · skip
    refine lv_if_eq (tgt := 30) hx hb dX4_addTrain_14 (by decide) (fun _ => ?_) (fun zc => absurd zc (by decide))
    refine lv_iconst (v := (-1)) hx hb dX4_addTrain_30 (by decide) ?_
    exact W.iret (v := (-1)) hx hb hr (fun t ht hW => ⟨⟨(-1), (), rfl, rfl, trivial⟩, hS.F ht⟩) hS.2.2 dX4_addTrain_31

def zs_c_learn : List Cond := .code yX4_learn cX4_learn 4 none :: (([.fieldLink RX4 24 "LanternHouse$Rails" "idleDays" "[J", .methodLink RX4 42 yJ7_fill_d0a16, .static yJ7_fill_d0a16, .initialized RJ7] : List Cond) ++ (zs_c_fillJ ++ (wsX40 ++ [])))
theorem gd_c_learn : (zs_c_learn).all goodWord = true := by decide +kernel
theorem in_c_learn_4 : ∀ w ∈ wsX40, w ∈ zs_c_learn := fun w h => List.mem_cons_of_mem _ (List.mem_append_right _ (List.mem_append_right _ (List.mem_append_left _ h)))
theorem g_c_learn_c_fillJ_42 : GoodIn zs_c_learn (va_wsS RX4 42 yJ7_fill_d0a16 zs_c_fillJ) := goodIn_app (goodIn_of _ (by decide +kernel)) (goodIn_sub (fun w h => List.mem_cons_of_mem _ (List.mem_append_right _ (List.mem_append_left _ h))) gd_c_fillJ)
abbrev ws_c_learn (cB cI cJ cZ cQ : ClassId) (aRa qId aF : Nat) (fId : Nat → Int64) (fsaRa : List Value) : va_W := [(aRa, .inr (4, fsaRa)), (qId, .inl (cJ, 16, .inr (.inl fId)))]
set_option maxHeartbeats 4000000 in
set_option maxRecDepth 100000 in
theorem c_learn (l : Launch) (dC : Nat → ClassId) (dI : Nat → Nat → Nat) (cB cI cJ cZ cQ : ClassId) (aRa qId aF : Nat) (fId : Nat → Int64) (fsaRa : List Value) (sz : Nat) (hlaRa : fsaRa.length = 8) (haRa_4 : fsaRa[4]? = some (.ref qId)) : Met l yX4_learn zs_c_learn ({ frames := 1, cells := 0, slots := 0, locals := 24 } : Room) (zPc [.ref aRa, .ref aF, .int 0] (dC, dI) (zTY cB cI cJ cZ cQ) (ws_c_learn cB cI cJ cZ cQ aRa qId aF fId fsaRa) sz) (va_Qv (fun (_ : Unit) => True) (fun (_ : Unit) (t : State) => ∃ (fId2 : Nat → Int64), ∃ (gsaRa : List Value), gsaRa.length = 8 ∧ (∀ j : Nat, ¬ j ∈ ([] : List Nat) → gsaRa[j]? = fsaRa[j]?) ∧ va_P (dC, dI) vwCl [(aRa, .inr (4, gsaRa)), (qId, .inl (cJ, 16, .inr (.inl fId2)))] t.heap ∧ va_D (va_A (ws_c_learn cB cI cJ cZ cQ aRa qId aF fId fsaRa) sz) [(aRa, .inr (4, gsaRa)), (qId, .inl (cJ, 16, .inr (.inl fId2)))]) (va_A (ws_c_learn cB cI cJ cZ cQ aRa qId aF fId fsaRa) sz)) 0 0 (va_A (ws_c_learn cB cI cJ cZ cQ aRa qId aF fId fsaRa) sz) := by
  refine Met.ofW (cc := cX4_learn) (maxL := 4) (ret := none) (by decide) rfl ?_
  intro p e s m args below meth c s₁ B hml hv
  obtain ⟨rfl, hsz, hP0, hK, hO, hD0⟩ := hv
  have hx := B.exec
  have hb := B.bytes
  have hr := B.returns
  have hts := atoms_spec (ws := zs_c_learn) B.pre
  have hown : s.vm.findClass RX4 = some m.cls := findClass_of_methodNamed B.named
  have hlocks := B.notSynchronized
  subst hsz
  have hD8 := hD0.self (sz := s.heap.size)
  generalize hAe : va_A (ws_c_learn cB cI cJ cZ cQ aRa qId aF fId fsaRa) s.heap.size = A at hD8 ⊢
  have hA : ∀ q : Nat, s.heap.size ≤ q → A q := fun q h => by rw [← hAe]; exact Or.inr h
  have hS : va_S A s.heap s.heap [] := va_S.rf
  have hP : va_P (dC, dI) vwCl [(aRa, .inr (4, fsaRa)), (qId, .inl (cJ, 16, .inr (.inl fId)))] s.heap := hP0
  have hD : va_D A [(aRa, .inr (4, fsaRa)), (qId, .inl (cJ, 16, .inr (.inl fId)))] := hD8
  have hl := lv_entry ([.ref aRa, .ref aF, .int 0]) (n := 4) (Nat.le_of_ble_eq_true rfl)
  rw [lg_entry_eq]
  generalize (lg_sl ([.ref aRa, .ref aF, .int 0]) ++ List.replicate (4 - (lg_sl ([.ref aRa, .ref aF, .int 0])).length) Slot.unset).toArray = ls at hl ⊢
  have hl : lv_has ls 4 [(0, .ref aRa), (1, .ref aF), (2, .int 0)] := hl
  clear hP0 hD8 hD0
  refine zH0 (fun H hP hS => ?_) hP hS
  refine lv_aload_n hx hb dX4_learn_0 rfl (lv_at hl 0 rfl) ?_
  refine va_get (D := (dC, dI)) (ci := 4) (v := .ref qId) (C := RX4) (T := TX4) (N := 8) hx hb hts in_c_learn_4 hown hK hP 0 rfl rfl 4 (by decide) (hts (.fieldLink RX4 24 "LanternHouse$Rails" "idleDays" "[J") (by decide +kernel)) (fun _ h9 => h9) haRa_4 dX4_learn_1 ?_
  refine lv_lconst (v := 0) hx hb dX4_learn_4 (by decide) ?_
  have hPc : va_P (dC, dI) vwCl (ws_c_fillJ cB cI cJ cZ cQ qId 16 0 fId) H := hP.sub [1] rfl
  have hDc := hD.sub (ws' := (ws_c_fillJ cB cI cJ cZ cQ qId 16 0 fId)) [1] (by decide) rfl
  have hFc := va_free (wc := (ws_c_fillJ cB cI cJ cZ cQ qId 16 0 fId)) hD hS hA [1] rfl
  refine va_callv (va_runS (As := [.ref qId, .long 0]) (rest := []) ⟨hx, hb, hml, hown, hts⟩ (c_fillJ l dC dI cB cI cJ cZ cQ qId 16 0 fId H.size (by first | decide | omega)) (va_cwS 2 hts g_c_learn_c_fillJ_42 rfl rfl rfl (by decide +kernel) ⟨Nat.le_of_ble_eq_true rfl, Nat.le_of_ble_eq_true rfl⟩) ⟨zFB, fun U hU hW => zUp hU hW hPc hK hO hDc⟩ rfl rfl hl.1 rfl (lv_room (Nat.le_of_ble_eq_true rfl)) dX4_learn_5 ⟨Nat.le_of_ble_eq_true rfl, Nat.le_of_ble_eq_true rfl⟩) hS (fun q _ h => hFc q h) hFc (fun u t H1 locs ht hvm hw2 hB hz1 hk1 hS => ?_)
  obtain ⟨fA23, hP1, hD1⟩ := hB
  rw [ht] at hP1
  obtain ⟨hP, hD⟩ := va_join (wr := [(aRa, .inr (4, fsaRa))]) (w1 := [(qId, .inl (cJ, 16, .inr (.inl fA23)))]) hP hD [1] [0] rfl rfl (by decide) (by decide) hk1 hFc hP1 hD1
  generalize H1 = H at hP hS ⊢
  have hP : va_P (dC, dI) vwCl [(aRa, .inr (4, fsaRa)), (qId, .inl (cJ, 16, .inr (.inl fA23)))] H := hP
  have hD : va_D A [(aRa, .inr (4, fsaRa)), (qId, .inl (cJ, 16, .inr (.inl fA23)))] := hD
  refine lv_iconst (v := 0) hx hb dX4_learn_8 (by decide) ?_
  refine lv_istore_n (lv' := [(3, .int 0), (0, .ref aRa), (1, .ref aF), (2, .int 0)]) hx hb dX4_learn_9 rfl hl (by decide) rfl (fun ls hl => ?_)
  refine lv_iload_n hx hb dX4_learn_10 rfl (lv_at hl 0 rfl) ?_
  refine lv_iload_n hx hb dX4_learn_11 rfl (lv_at hl 3 rfl) ?_
  refine lv_icmp_ge (tgt := 52) hx hb dX4_learn_12 (by decide) (fun _ => ?_) (fun zc => absurd zc (by decide))
  have hP9 : va_P (dC, dI) vwCl [(aRa, .inr (4, fsaRa)), (qId, .inl (cJ, 16, .inr (.inl fA23)))] H := hP.sub [0, 1] rfl
  have hD9 : va_D A [(aRa, .inr (4, fsaRa)), (qId, .inl (cJ, 16, .inr (.inl fA23)))] := hD.sub [0, 1] (by decide) rfl
  exact W.vret hx hb hr (fun t ht hW => ⟨⟨(), rfl, trivial, ⟨fA23, fsaRa, hlaRa, (fun j hj => rfl), by rw [ht]; exact hP9, hD9⟩⟩, hS.F ht⟩) hS.2.2 dX4_learn_52

def zs_c_spread : List Cond := .code yX4_spread cX4_spread 11 none :: (([.fieldLink RX4 35 "LanternHouse$Rails" "trains" "I", .methodLink RX4 63 yJ7_fill_53178, .static yJ7_fill_53178, .initialized RJ7] : List Cond) ++ (zs_c_fillI ++ (wsX40 ++ [])))
theorem gd_c_spread : (zs_c_spread).all goodWord = true := by decide +kernel
theorem in_c_spread_4 : ∀ w ∈ wsX40, w ∈ zs_c_spread := fun w h => List.mem_cons_of_mem _ (List.mem_append_right _ (List.mem_append_right _ (List.mem_append_left _ h)))
theorem g_c_spread_c_fillI_63 : GoodIn zs_c_spread (va_wsS RX4 63 yJ7_fill_53178 zs_c_fillI) := goodIn_app (goodIn_of _ (by decide +kernel)) (goodIn_sub (fun w h => List.mem_cons_of_mem _ (List.mem_append_right _ (List.mem_append_left _ h))) gd_c_fillI)
abbrev ws_c_spread (cB cI cJ cZ cQ : ClassId) (aRa qRe : Nat) (iHr : Int32) (fR : Nat → Int32) (fsaRa : List Value) : va_W := [(aRa, .inr (4, fsaRa)), (qRe, .inl (cI, 6, .inl fR))]
set_option maxHeartbeats 4000000 in
set_option maxRecDepth 100000 in
theorem c_spread (l : Launch) (dC : Nat → ClassId) (dI : Nat → Nat → Nat) (cB cI cJ cZ cQ : ClassId) (aRa qRe : Nat) (iHr : Int32) (fR : Nat → Int32) (fsaRa : List Value) (sz : Nat) (hlaRa : fsaRa.length = 8) (haRa_7 : fsaRa[7]? = some (.int 0)) : Met l yX4_spread zs_c_spread ({ frames := 1, cells := 0, slots := 0, locals := 23 } : Room) (zPc [.ref aRa, .int 0, .int iHr, .ref qRe] (dC, dI) (zTY cB cI cJ cZ cQ) (ws_c_spread cB cI cJ cZ cQ aRa qRe iHr fR fsaRa) sz) (va_Qv (fun (_ : Unit) => True) (fun (_ : Unit) (t : State) => ∃ (fR2 : Nat → Int32), ∃ (gsaRa : List Value), gsaRa.length = 8 ∧ (∀ j : Nat, ¬ j ∈ ([] : List Nat) → gsaRa[j]? = fsaRa[j]?) ∧ fR2 (0 : Int32).toNatClampNeg = iHr ∧ va_P (dC, dI) vwCl [(aRa, .inr (4, gsaRa)), (qRe, .inl (cI, 6, .inl fR2))] t.heap ∧ va_D (va_A (ws_c_spread cB cI cJ cZ cQ aRa qRe iHr fR fsaRa) sz) [(aRa, .inr (4, gsaRa)), (qRe, .inl (cI, 6, .inl fR2))]) (va_A (ws_c_spread cB cI cJ cZ cQ aRa qRe iHr fR fsaRa) sz)) 0 0 (va_A (ws_c_spread cB cI cJ cZ cQ aRa qRe iHr fR fsaRa) sz) := by
  refine Met.ofW (cc := cX4_spread) (maxL := 11) (ret := none) (by decide) rfl ?_
  intro p e s m args below meth c s₁ B hml hv
  obtain ⟨rfl, hsz, hP0, hK, hO, hD0⟩ := hv
  have hx := B.exec
  have hb := B.bytes
  have hr := B.returns
  have hts := atoms_spec (ws := zs_c_spread) B.pre
  have hown : s.vm.findClass RX4 = some m.cls := findClass_of_methodNamed B.named
  have hlocks := B.notSynchronized
  subst hsz
  have hD8 := hD0.self (sz := s.heap.size)
  generalize hAe : va_A (ws_c_spread cB cI cJ cZ cQ aRa qRe iHr fR fsaRa) s.heap.size = A at hD8 ⊢
  have hA : ∀ q : Nat, s.heap.size ≤ q → A q := fun q h => by rw [← hAe]; exact Or.inr h
  have hS : va_S A s.heap s.heap [] := va_S.rf
  have hP : va_P (dC, dI) vwCl [(aRa, .inr (4, fsaRa)), (qRe, .inl (cI, 6, .inl fR))] s.heap := hP0
  have hD : va_D A [(aRa, .inr (4, fsaRa)), (qRe, .inl (cI, 6, .inl fR))] := hD8
  have hl := lv_entry ([.ref aRa, .int 0, .int iHr, .ref qRe]) (n := 11) (Nat.le_of_ble_eq_true rfl)
  rw [lg_entry_eq]
  generalize (lg_sl ([.ref aRa, .int 0, .int iHr, .ref qRe]) ++ List.replicate (11 - (lg_sl ([.ref aRa, .int 0, .int iHr, .ref qRe])).length) Slot.unset).toArray = ls at hl ⊢
  have hl : lv_has ls 11 [(0, .ref aRa), (1, .int 0), (2, .int iHr), (3, .ref qRe)] := hl
  clear hP0 hD8 hD0
  refine zH0 (fun H hP hS => ?_) hP hS
  refine lv_aload_n hx hb dX4_spread_0 rfl (lv_at hl 3 rfl) ?_
  refine lv_iconst (v := (-1)) hx hb dX4_spread_1 (by decide) ?_
  have hPc : va_P (dC, dI) vwCl (ws_c_fillI cB cI cJ cZ cQ qRe 6 (-1) fR) H := hP.sub [1] rfl
  have hDc := hD.sub (ws' := (ws_c_fillI cB cI cJ cZ cQ qRe 6 (-1) fR)) [1] (by decide) rfl
  have hFc := va_free (wc := (ws_c_fillI cB cI cJ cZ cQ qRe 6 (-1) fR)) hD hS hA [1] rfl
  refine va_callv (va_runS (As := [.ref qRe, .int (-1)]) (rest := []) ⟨hx, hb, hml, hown, hts⟩ (c_fillI l dC dI cB cI cJ cZ cQ qRe 6 (-1) fR H.size (by first | decide | omega)) (va_cwS 2 hts g_c_spread_c_fillI_63 rfl rfl rfl (by decide +kernel) ⟨Nat.le_of_ble_eq_true rfl, Nat.le_of_ble_eq_true rfl⟩) ⟨zFB, fun U hU hW => zUp hU hW hPc hK hO hDc⟩ rfl rfl hl.1 rfl (lv_room (Nat.le_of_ble_eq_true rfl)) dX4_spread_2 ⟨Nat.le_of_ble_eq_true rfl, Nat.le_of_ble_eq_true rfl⟩) hS (fun q _ h => hFc q h) hFc (fun u t H1 locs ht hvm hw2 hB hz1 hk1 hS => ?_)
  obtain ⟨fA23, hP1, hD1⟩ := hB
  rw [ht] at hP1
  obtain ⟨hP, hD⟩ := va_join (wr := [(aRa, .inr (4, fsaRa))]) (w1 := [(qRe, .inl (cI, 6, .inl fA23))]) hP hD [1] [0] rfl rfl (by decide) (by decide) hk1 hFc hP1 hD1
  generalize H1 = H at hP hS ⊢
  have hP : va_P (dC, dI) vwCl [(aRa, .inr (4, fsaRa)), (qRe, .inl (cI, 6, .inl fA23))] H := hP
  have hD : va_D A [(aRa, .inr (4, fsaRa)), (qRe, .inl (cI, 6, .inl fA23))] := hD
  refine lv_aload_n hx hb dX4_spread_5 rfl (lv_at hl 3 rfl) ?_
  refine lv_iload_n hx hb dX4_spread_6 rfl (lv_at hl 1 rfl) ?_
  refine lv_iload_n hx hb dX4_spread_7 rfl (lv_at hl 2 rfl) ?_
  refine z_iast hx hb hK hP hD hS 1 1 rfl rfl (show ¬ ((0 : Int32) < 0 ∨ 6 ≤ (0 : Int32).toNatClampNeg) from by decide) dX4_spread_8 (fun H locs g4 hg4 hP hD hS => ?_)
  have hP : va_P (dC, dI) vwCl [(aRa, .inr (4, fsaRa)), (qRe, .inl (cI, 6, .inl g4))] H := hP
  have hD : va_D A [(aRa, .inr (4, fsaRa)), (qRe, .inl (cI, 6, .inl g4))] := hD
  refine lv_iload_n hx hb dX4_spread_9 rfl (lv_at hl 2 rfl) ?_
  refine lv_bipush (v := 24) hx hb dX4_spread_10 (by decide) ?_
  refine lv_idiv hx hb dX4_spread_12 (by decide) ?_
  refine lv_topi (fun x5 ex5 => ?_)
  refine lv_bipush (v := 60) hx hb dX4_spread_13 (by decide) ?_
  refine lv_iadd hx hb dX4_spread_15 ?_
  refine lv_topi (fun x6 ex6 => ?_)
  refine lv_istore (lv' := [(4, .int x6), (0, .ref aRa), (1, .int 0), (2, .int iHr), (3, .ref qRe)]) hx hb dX4_spread_16 hl (by decide) rfl (fun ls hl => ?_)
  refine lv_iconst (v := 1) hx hb dX4_spread_18 (by decide) ?_
  refine lv_istore (lv' := [(5, .int 1), (4, .int x6), (0, .ref aRa), (1, .int 0), (2, .int iHr), (3, .ref qRe)]) hx hb dX4_spread_19 hl (by decide) rfl (fun ls hl => ?_)
  refine lv_iconst (v := 1) hx hb dX4_spread_21 (by decide) ?_
  refine lv_istore (lv' := [(6, .int 1), (5, .int 1), (4, .int x6), (0, .ref aRa), (1, .int 0), (2, .int iHr), (3, .ref qRe)]) hx hb dX4_spread_22 hl (by decide) rfl (fun ls hl => ?_)
  refine lv_iload hx hb dX4_spread_24 (lv_at hl 0 rfl) ?_
  refine lv_bipush (v := 6) hx hb dX4_spread_26 (by decide) ?_
  refine lv_icmp_ge (tgt := 140) hx hb dX4_spread_28 (by decide) (fun zc => absurd zc (by decide)) (fun _ => ?_)
  refine lv_iload hx hb dX4_spread_31 (lv_at hl 1 rfl) ?_
  refine lv_if_eq (tgt := 140) hx hb dX4_spread_33 (by decide) (fun zc => absurd zc (by decide)) (fun _ => ?_)
  refine lv_iconst (v := 0) hx hb dX4_spread_36 (by decide) ?_
  refine lv_istore (lv' := [(5, .int 0), (6, .int 1), (4, .int x6), (0, .ref aRa), (1, .int 0), (2, .int iHr), (3, .ref qRe)]) hx hb dX4_spread_37 hl (by decide) rfl (fun ls hl => ?_)
  refine lv_iconst (v := 0) hx hb dX4_spread_39 (by decide) ?_
  refine lv_istore (lv' := [(7, .int 0), (5, .int 0), (6, .int 1), (4, .int x6), (0, .ref aRa), (1, .int 0), (2, .int iHr), (3, .ref qRe)]) hx hb dX4_spread_40 hl (by decide) rfl (fun ls hl => ?_)
  refine lv_iload hx hb dX4_spread_42 (lv_at hl 0 rfl) ?_
  refine lv_aload_n hx hb dX4_spread_44 rfl (lv_at hl 4 rfl) ?_
  refine va_get (D := (dC, dI)) (ci := 4) (v := .int 0) (C := RX4) (T := TX4) (N := 8) hx hb hts in_c_spread_4 hown hK hP 0 rfl rfl 7 (by decide) (hts (.fieldLink RX4 35 "LanternHouse$Rails" "trains" "I") (by decide +kernel)) (fun _ h9 => h9) haRa_7 dX4_spread_45 ?_
  refine lv_icmp_ge (tgt := 134) hx hb dX4_spread_48 (by decide) (fun _ => ?_) (fun zc => absurd zc (by decide))
  refine lv_iinc (v := 2) (lv' := [(6, .int 2), (7, .int 0), (5, .int 0), (4, .int x6), (0, .ref aRa), (1, .int 0), (2, .int iHr), (3, .ref qRe)]) hx hb dX4_spread_134 hl (k := 2) rfl (by decide) (by decide) rfl (fun ls hl => ?_)
  refine lv_goto (tgt := 24) hx hb dX4_spread_137 (by decide) ?_
  refine lv_iload hx hb dX4_spread_24 (lv_at hl 0 rfl) ?_
  refine lv_bipush (v := 6) hx hb dX4_spread_26 (by decide) ?_
  refine lv_icmp_ge (tgt := 140) hx hb dX4_spread_28 (by decide) (fun zc => absurd zc (by decide)) (fun _ => ?_)
  refine lv_iload hx hb dX4_spread_31 (lv_at hl 2 rfl) ?_
  refine lv_if_eq (tgt := 140) hx hb dX4_spread_33 (by decide) (fun _ => ?_) (fun zc => absurd zc (by decide))
  have hP9 : va_P (dC, dI) vwCl [(aRa, .inr (4, fsaRa)), (qRe, .inl (cI, 6, .inl g4))] H := hP.sub [0, 1] rfl
  have hD9 : va_D A [(aRa, .inr (4, fsaRa)), (qRe, .inl (cI, 6, .inl g4))] := hD.sub [0, 1] (by decide) rfl
  exact W.vret hx hb hr (fun t ht hW => ⟨⟨(), rfl, trivial, ⟨g4, fsaRa, hlaRa, (fun j hj => rfl), hg4, by rw [ht]; exact hP9, hD9⟩⟩, hS.F ht⟩) hS.2.2 dX4_spread_140

def zs_c_soonest : List Cond := .code yX4_soonest cX4_soonest 4 (some .int) :: (([.fieldLink RX4 28 "LanternHouse$Rails" "reached" "[I", .methodLink RX4 59 yX4_spread, .instanceMethod yX4_spread, .selects RX4 yX4_spread yX4_spread, .initialized RX4] : List Cond) ++ (zs_c_spread ++ (wsX40 ++ [])))
theorem gd_c_soonest : (zs_c_soonest).all goodWord = true := by decide +kernel
theorem in_c_soonest_4 : ∀ w ∈ wsX40, w ∈ zs_c_soonest := fun w h => List.mem_cons_of_mem _ (List.mem_append_right _ (List.mem_append_right _ (List.mem_append_left _ h)))
theorem g_c_soonest_c_spread_59 : GoodIn zs_c_soonest (wsV RX4 59 RX4 yX4_spread zs_c_spread) := goodIn_app (goodIn_of _ (by decide +kernel)) (goodIn_sub (fun w h => List.mem_cons_of_mem _ (List.mem_append_right _ (List.mem_append_left _ h))) gd_c_spread)
abbrev ws_c_soonest (cB cI cJ cZ cQ : ClassId) (aRa qRe : Nat) (iHr : Int32) (fR : Nat → Int32) (fsaRa : List Value) : va_W := [(aRa, .inr (4, fsaRa)), (qRe, .inl (cI, 6, .inl fR))]
set_option maxHeartbeats 4000000 in
set_option maxRecDepth 100000 in
theorem c_soonest (l : Launch) (dC : Nat → ClassId) (dI : Nat → Nat → Nat) (cB cI cJ cZ cQ : ClassId) (aRa qRe : Nat) (iHr : Int32) (fR : Nat → Int32) (fsaRa : List Value) (sz : Nat) (hlaRa : fsaRa.length = 8) (haRa_5 : fsaRa[5]? = some (.ref qRe)) (haRa_7 : fsaRa[7]? = some (.int 0)) : Met l yX4_soonest zs_c_soonest ({ frames := 2, cells := 0, slots := 0, locals := 53 } : Room) (zPc [.ref aRa, .int 0, .int 0, .int iHr] (dC, dI) (zTY cB cI cJ cZ cQ) (ws_c_soonest cB cI cJ cZ cQ aRa qRe iHr fR fsaRa) sz) (va_Qi (fun (zr : Int32) (_ : Unit) => zr = iHr) (fun (_ : Unit) (_ : State) => True) (va_A (ws_c_soonest cB cI cJ cZ cQ aRa qRe iHr fR fsaRa) sz)) 0 0 (va_A (ws_c_soonest cB cI cJ cZ cQ aRa qRe iHr fR fsaRa) sz) := by
  refine Met.ofW (cc := cX4_soonest) (maxL := 4) (ret := (some .int)) (by decide) rfl ?_
  intro p e s m args below meth c s₁ B hml hv
  obtain ⟨rfl, hsz, hP0, hK, hO, hD0⟩ := hv
  have hx := B.exec
  have hb := B.bytes
  have hr := B.returns
  have hts := atoms_spec (ws := zs_c_soonest) B.pre
  have hown : s.vm.findClass RX4 = some m.cls := findClass_of_methodNamed B.named
  have hlocks := B.notSynchronized
  subst hsz
  have hD8 := hD0.self (sz := s.heap.size)
  generalize hAe : va_A (ws_c_soonest cB cI cJ cZ cQ aRa qRe iHr fR fsaRa) s.heap.size = A at hD8 ⊢
  have hA : ∀ q : Nat, s.heap.size ≤ q → A q := fun q h => by rw [← hAe]; exact Or.inr h
  have hS : va_S A s.heap s.heap [] := va_S.rf
  have hP : va_P (dC, dI) vwCl [(aRa, .inr (4, fsaRa)), (qRe, .inl (cI, 6, .inl fR))] s.heap := hP0
  have hD : va_D A [(aRa, .inr (4, fsaRa)), (qRe, .inl (cI, 6, .inl fR))] := hD8
  have hl := lv_entry ([.ref aRa, .int 0, .int 0, .int iHr]) (n := 4) (Nat.le_of_ble_eq_true rfl)
  rw [lg_entry_eq]
  generalize (lg_sl ([.ref aRa, .int 0, .int 0, .int iHr]) ++ List.replicate (4 - (lg_sl ([.ref aRa, .int 0, .int 0, .int iHr])).length) Slot.unset).toArray = ls at hl ⊢
  have hl : lv_has ls 4 [(0, .ref aRa), (1, .int 0), (2, .int 0), (3, .int iHr)] := hl
  clear hP0 hD8 hD0
  refine zH0 (fun H hP hS => ?_) hP hS
  refine lv_aload_n hx hb dX4_soonest_0 rfl (lv_at hl 0 rfl) ?_
  refine lv_iload_n hx hb dX4_soonest_1 rfl (lv_at hl 1 rfl) ?_
  refine lv_iload_n hx hb dX4_soonest_2 rfl (lv_at hl 3 rfl) ?_
  refine lv_aload_n hx hb dX4_soonest_3 rfl (lv_at hl 0 rfl) ?_
  refine va_get (D := (dC, dI)) (ci := 4) (v := .ref qRe) (C := RX4) (T := TX4) (N := 8) hx hb hts in_c_soonest_4 hown hK hP 0 rfl rfl 5 (by decide) (hts (.fieldLink RX4 28 "LanternHouse$Rails" "reached" "[I") (by decide +kernel)) (fun _ h9 => h9) haRa_5 dX4_soonest_4 ?_
  have hPc : va_P (dC, dI) vwCl (ws_c_spread cB cI cJ cZ cQ aRa qRe iHr fR fsaRa) H := hP.sub [0, 1] rfl
  have hDc := hD.sub (ws' := (ws_c_spread cB cI cJ cZ cQ aRa qRe iHr fR fsaRa)) [0, 1] (by decide) rfl
  have hFc := va_free (wc := (ws_c_spread cB cI cJ cZ cQ aRa qRe iHr fR fsaRa)) hD hS hA [0, 1] rfl
  refine va_callv (va_runV (As := [.int 0, .int iHr, .ref qRe]) (rest := []) ⟨hx, hb, hml, hown, hts⟩ (c_spread l dC dI cB cI cJ cZ cQ aRa qRe iHr fR fsaRa H.size hlaRa haRa_7) (cwV 3 hts g_c_soonest_c_spread_59 rfl rfl rfl (by decide +kernel) ⟨Nat.le_of_ble_eq_true rfl, Nat.le_of_ble_eq_true rfl⟩) ⟨zFB, va_recv hK hP (ci := 4) (q0 := 0) rfl rfl, fun U hU hW => zUp hU hW hPc hK hO hDc⟩ rfl rfl hl.1 rfl (lv_room (Nat.le_of_ble_eq_true rfl)) dX4_soonest_7 ⟨Nat.le_of_ble_eq_true rfl, Nat.le_of_ble_eq_true rfl⟩) hS (fun q _ h => hFc q h) hFc (fun u t H1 locs ht hvm hw2 hB hz1 hk1 hS => ?_)
  obtain ⟨fR23, gs4, hgl5, hgf6, hk7, hP1, hD1⟩ := hB
  rw [ht] at hP1
  obtain ⟨hP, hD⟩ := va_join (wr := []) (w1 := [(aRa, .inr (4, gs4)), (qRe, .inl (cI, 6, .inl fR23))]) hP hD [0, 1] [] rfl rfl (by decide) (by decide) hk1 hFc hP1 hD1
  generalize H1 = H at hP hS ⊢
  have hP : va_P (dC, dI) vwCl [(aRa, .inr (4, gs4)), (qRe, .inl (cI, 6, .inl fR23))] H := hP
  have hD : va_D A [(aRa, .inr (4, gs4)), (qRe, .inl (cI, 6, .inl fR23))] := hD
  refine lv_aload_n hx hb dX4_soonest_10 rfl (lv_at hl 0 rfl) ?_
  refine va_get (D := (dC, dI)) (ci := 4) (v := .ref qRe) (C := RX4) (T := TX4) (N := 8) hx hb hts in_c_soonest_4 hown hK hP 0 rfl rfl 5 (by decide) (hts (.fieldLink RX4 28 "LanternHouse$Rails" "reached" "[I") (by decide +kernel)) (fun _ h9 => h9) ((hgf6 5 (by decide)).trans haRa_5) dX4_soonest_11 ?_
  refine lv_iload_n hx hb dX4_soonest_14 rfl (lv_at hl 2 rfl) ?_
  refine z_iald hx hb hK hP 1 1 rfl rfl (show ¬ ((0 : Int32) < 0 ∨ 6 ≤ (0 : Int32).toNatClampNeg) from by decide) (v := iHr) hk7 dX4_soonest_15 ?_
  exact W.iret (v := iHr) hx hb hr (fun t ht hW => ⟨⟨iHr, (), rfl, rfl, trivial⟩, hS.F ht⟩) hS.2.2 dX4_soonest_16

