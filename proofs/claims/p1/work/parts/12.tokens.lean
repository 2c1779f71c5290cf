def zs_c_isLetter : List Cond := .code yX10_isLetter cX10_isLetter 1 (some .boolean) :: (([] : List Cond) ++ [])
theorem gd_c_isLetter : (zs_c_isLetter).all goodWord = true := by decide +kernel
abbrev ws_c_isLetter (cB cI cJ cZ cQ : ClassId) : va_W := []
set_option maxHeartbeats 4000000 in
set_option maxRecDepth 100000 in
theorem c_isLetter (l : Launch) (dC : Nat → ClassId) (dI : Nat → Nat → Nat) (cB cI cJ cZ cQ : ClassId) (sz : Nat) : Met l yX10_isLetter zs_c_isLetter ({ frames := 0, cells := 0, slots := 0, locals := 0 } : Room) (zPc [.int (-1)] (dC, dI) (zTY cB cI cJ cZ cQ) (ws_c_isLetter cB cI cJ cZ cQ) sz) (va_Qi (fun (zr : Int32) (_ : Unit) => zr = 0) (fun (_ : Unit) (_ : State) => True) (va_A (ws_c_isLetter cB cI cJ cZ cQ) sz)) 0 0 (va_A (ws_c_isLetter cB cI cJ cZ cQ) sz) := by
  refine Met.ofW (cc := cX10_isLetter) (maxL := 1) (ret := (some .boolean)) (by decide) rfl ?_
  intro p e s m args below meth c s₁ B hml hv
  obtain ⟨rfl, hsz, hP0, hK, hO, hD0⟩ := hv
  have hx := B.exec
  have hb := B.bytes
  have hr := B.returns
  have hts := atoms_spec (ws := zs_c_isLetter) B.pre
  have hown : s.vm.findClass RX10 = some m.cls := findClass_of_methodNamed B.named
  have hlocks := B.notSynchronized
  subst hsz
  have hD8 := hD0.self (sz := s.heap.size)
  generalize hAe : va_A (ws_c_isLetter cB cI cJ cZ cQ) s.heap.size = A at hD8 ⊢
  have hA : ∀ q : Nat, s.heap.size ≤ q → A q := fun q h => by rw [← hAe]; exact Or.inr h
  have hS : va_S A s.heap s.heap [] := va_S.rf
  have hP : va_P (dC, dI) vwCl [] s.heap := hP0
  have hD : va_D A [] := hD8
  have hl := lv_entry ([.int (-1)]) (n := 1) (Nat.le_of_ble_eq_true rfl)
  rw [lg_entry_eq]
  generalize (lg_sl ([.int (-1)]) ++ List.replicate (1 - (lg_sl ([.int (-1)])).length) Slot.unset).toArray = ls at hl ⊢
  have hl : lv_has ls 1 [(0, .int (-1))] := hl
  clear hP0 hD8 hD0
  refine zH0 (fun H hP hS => ?_) hP hS
  refine lv_iload_n hx hb dX10_isLetter_0 rfl (lv_at hl 0 rfl) ?_
  refine lv_bipush (v := 97) hx hb dX10_isLetter_1 (by decide) ?_
  refine lv_icmp_lt (tgt := 16) hx hb dX10_isLetter_3 (by decide) (fun _ => ?_) (fun zc => absurd zc (by decide))
  refine lv_iconst (v := 0) hx hb dX10_isLetter_16 (by decide) ?_
  exact W.zret (v := 0) hx hb hr rfl (fun t ht hW => ⟨⟨0, (), rfl, rfl, trivial⟩, hS.F ht⟩) hS.2.2 dX10_isLetter_17

def zs_c_isDigit : List Cond := .code yX10_isDigit cX10_isDigit 1 (some .boolean) :: (([] : List Cond) ++ [])
theorem gd_c_isDigit : (zs_c_isDigit).all goodWord = true := by decide +kernel
abbrev ws_c_isDigit (cB cI cJ cZ cQ : ClassId) : va_W := []
set_option maxHeartbeats 4000000 in
set_option maxRecDepth 100000 in
theorem c_isDigit (l : Launch) (dC : Nat → ClassId) (dI : Nat → Nat → Nat) (cB cI cJ cZ cQ : ClassId) (sz : Nat) : Met l yX10_isDigit zs_c_isDigit ({ frames := 0, cells := 0, slots := 0, locals := 0 } : Room) (zPc [.int (-1)] (dC, dI) (zTY cB cI cJ cZ cQ) (ws_c_isDigit cB cI cJ cZ cQ) sz) (va_Qi (fun (zr : Int32) (_ : Unit) => zr = 0) (fun (_ : Unit) (_ : State) => True) (va_A (ws_c_isDigit cB cI cJ cZ cQ) sz)) 0 0 (va_A (ws_c_isDigit cB cI cJ cZ cQ) sz) := by
  refine Met.ofW (cc := cX10_isDigit) (maxL := 1) (ret := (some .boolean)) (by decide) rfl ?_
  intro p e s m args below meth c s₁ B hml hv
  obtain ⟨rfl, hsz, hP0, hK, hO, hD0⟩ := hv
  have hx := B.exec
  have hb := B.bytes
  have hr := B.returns
  have hts := atoms_spec (ws := zs_c_isDigit) B.pre
  have hown : s.vm.findClass RX10 = some m.cls := findClass_of_methodNamed B.named
  have hlocks := B.notSynchronized
  subst hsz
  have hD8 := hD0.self (sz := s.heap.size)
  generalize hAe : va_A (ws_c_isDigit cB cI cJ cZ cQ) s.heap.size = A at hD8 ⊢
  have hA : ∀ q : Nat, s.heap.size ≤ q → A q := fun q h => by rw [← hAe]; exact Or.inr h
  have hS : va_S A s.heap s.heap [] := va_S.rf
  have hP : va_P (dC, dI) vwCl [] s.heap := hP0
  have hD : va_D A [] := hD8
  have hl := lv_entry ([.int (-1)]) (n := 1) (Nat.le_of_ble_eq_true rfl)
  rw [lg_entry_eq]
  generalize (lg_sl ([.int (-1)]) ++ List.replicate (1 - (lg_sl ([.int (-1)])).length) Slot.unset).toArray = ls at hl ⊢
  have hl : lv_has ls 1 [(0, .int (-1))] := hl
  clear hP0 hD8 hD0
  refine zH0 (fun H hP hS => ?_) hP hS
  refine lv_iload_n hx hb dX10_isDigit_0 rfl (lv_at hl 0 rfl) ?_
  refine lv_bipush (v := 48) hx hb dX10_isDigit_1 (by decide) ?_
  refine lv_icmp_lt (tgt := 16) hx hb dX10_isDigit_3 (by decide) (fun _ => ?_) (fun zc => absurd zc (by decide))
  refine lv_iconst (v := 0) hx hb dX10_isDigit_16 (by decide) ?_
  exact W.zret (v := 0) hx hb hr rfl (fun t ht hW => ⟨⟨0, (), rfl, rfl, trivial⟩, hS.F ht⟩) hS.2.2 dX10_isDigit_17

def zs_c_pastBlanks : List Cond := .code yX10_pastBlanks cX10_pastBlanks 3 (some .int) :: (([.fieldLink RX10 37 "LanternHouse$Tape" "length" "I"] : List Cond) ++ (wsX90 ++ []))
theorem gd_c_pastBlanks : (zs_c_pastBlanks).all goodWord = true := by decide +kernel
theorem in_c_pastBlanks_9 : ∀ w ∈ wsX90, w ∈ zs_c_pastBlanks := fun w h => List.mem_cons_of_mem _ (List.mem_append_right _ (List.mem_append_left _ h))
abbrev ws_c_pastBlanks (cB cI cJ cZ cQ : ClassId) (aT : Nat) (fsaT : List Value) : va_W := [(aT, .inr (9, fsaT))]
set_option maxHeartbeats 4000000 in
set_option maxRecDepth 100000 in
theorem c_pastBlanks (l : Launch) (dC : Nat → ClassId) (dI : Nat → Nat → Nat) (cB cI cJ cZ cQ : ClassId) (aT : Nat) (fsaT : List Value) (sz : Nat) (hlaT : fsaT.length = 2) (haT_1 : fsaT[1]? = some (.int 0)) : Met l yX10_pastBlanks zs_c_pastBlanks ({ frames := 0, cells := 0, slots := 0, locals := 0 } : Room) (zPc [.ref aT, .int 0] (dC, dI) (zTY cB cI cJ cZ cQ) (ws_c_pastBlanks cB cI cJ cZ cQ aT fsaT) sz) (va_Qi (fun (zr : Int32) (_ : Unit) => zr = 0) (fun (_ : Unit) (t : State) => ∃ (gsaT : List Value), gsaT.length = 2 ∧ (∀ j : Nat, ¬ j ∈ ([] : List Nat) → gsaT[j]? = fsaT[j]?) ∧ va_P (dC, dI) vwCl [(aT, .inr (9, gsaT))] t.heap ∧ va_D (va_A (ws_c_pastBlanks cB cI cJ cZ cQ aT fsaT) sz) [(aT, .inr (9, gsaT))]) (va_A (ws_c_pastBlanks cB cI cJ cZ cQ aT fsaT) sz)) 0 0 (va_A (ws_c_pastBlanks cB cI cJ cZ cQ aT fsaT) sz) := by
  refine Met.ofW (cc := cX10_pastBlanks) (maxL := 3) (ret := (some .int)) (by decide) rfl ?_
  intro p e s m args below meth c s₁ B hml hv
  obtain ⟨rfl, hsz, hP0, hK, hO, hD0⟩ := hv
  have hx := B.exec
  have hb := B.bytes
  have hr := B.returns
  have hts := atoms_spec (ws := zs_c_pastBlanks) B.pre
  have hown : s.vm.findClass RX10 = some m.cls := findClass_of_methodNamed B.named
  have hlocks := B.notSynchronized
  subst hsz
  have hD8 := hD0.self (sz := s.heap.size)
  generalize hAe : va_A (ws_c_pastBlanks cB cI cJ cZ cQ aT fsaT) s.heap.size = A at hD8 ⊢
  have hA : ∀ q : Nat, s.heap.size ≤ q → A q := fun q h => by rw [← hAe]; exact Or.inr h
  have hS : va_S A s.heap s.heap [] := va_S.rf
  have hP : va_P (dC, dI) vwCl [(aT, .inr (9, fsaT))] s.heap := hP0
  have hD : va_D A [(aT, .inr (9, fsaT))] := hD8
  have hl := lv_entry ([.ref aT, .int 0]) (n := 3) (Nat.le_of_ble_eq_true rfl)
  rw [lg_entry_eq]
  generalize (lg_sl ([.ref aT, .int 0]) ++ List.replicate (3 - (lg_sl ([.ref aT, .int 0])).length) Slot.unset).toArray = ls at hl ⊢
  have hl : lv_has ls 3 [(0, .ref aT), (1, .int 0)] := hl
  clear hP0 hD8 hD0
  refine zH0 (fun H hP hS => ?_) hP hS
  refine lv_iload_n hx hb dX10_pastBlanks_0 rfl (lv_at hl 1 rfl) ?_
  refine lv_istore_n (lv' := [(2, .int 0), (0, .ref aT), (1, .int 0)]) hx hb dX10_pastBlanks_1 rfl hl (by decide) rfl (fun ls hl => ?_)
  refine lv_iload_n hx hb dX10_pastBlanks_2 rfl (lv_at hl 0 rfl) ?_
  refine lv_aload_n hx hb dX10_pastBlanks_3 rfl (lv_at hl 1 rfl) ?_
  refine va_get (D := (dC, dI)) (ci := 9) (v := .int 0) (C := RX9) (T := TX9) (N := 2) hx hb hts in_c_pastBlanks_9 hown hK hP 0 rfl rfl 1 (by decide) (hts (.fieldLink RX10 37 "LanternHouse$Tape" "length" "I") (by decide +kernel)) (fun _ h9 => h9) haT_1 dX10_pastBlanks_4 ?_
  refine lv_icmp_ge (tgt := 27) hx hb dX10_pastBlanks_7 (by decide) (fun _ => ?_) (fun zc => absurd zc (by decide))
  refine lv_iload_n hx hb dX10_pastBlanks_27 rfl (lv_at hl 0 rfl) ?_
  have hP9 : va_P (dC, dI) vwCl [(aT, .inr (9, fsaT))] H := hP.sub [0] rfl
  have hD9 : va_D A [(aT, .inr (9, fsaT))] := hD.sub [0] (by decide) rfl
  exact W.iret (v := 0) hx hb hr (fun t ht hW => ⟨⟨0, (), rfl, rfl, ⟨fsaT, hlaT, (fun j hj => rfl), by rw [ht]; exact hP9, hD9⟩⟩, hS.F ht⟩) hS.2.2 dX10_pastBlanks_28

def zs_c_endOf : List Cond := .code yX10_endOf cX10_endOf 4 (some .int) :: (([.methodLink RX10 43 yX9_at, .instanceMethod yX9_at, .selects RX9 yX9_at yX9_at, .initialized RX9, .methodLink RX10 51 yX10_isLetter, .static yX10_isLetter, .initialized RX10, .methodLink RX10 54 yX10_isDigit, .static yX10_isDigit] : List Cond) ++ (zs_c_at ++ (zs_c_isLetter ++ (zs_c_isDigit ++ []))))
theorem gd_c_endOf : (zs_c_endOf).all goodWord = true := by decide +kernel
theorem g_c_endOf_c_at_43 : GoodIn zs_c_endOf (wsV RX10 43 RX9 yX9_at zs_c_at) := goodIn_app (goodIn_of _ (by decide +kernel)) (goodIn_sub (fun w h => List.mem_cons_of_mem _ (List.mem_append_right _ (List.mem_append_left _ h))) gd_c_at)
theorem g_c_endOf_c_isLetter_51 : GoodIn zs_c_endOf (va_wsS RX10 51 yX10_isLetter zs_c_isLetter) := goodIn_app (goodIn_of _ (by decide +kernel)) (goodIn_sub (fun w h => List.mem_cons_of_mem _ (List.mem_append_right _ (List.mem_append_right _ (List.mem_append_left _ h)))) gd_c_isLetter)
theorem g_c_endOf_c_isDigit_54 : GoodIn zs_c_endOf (va_wsS RX10 54 yX10_isDigit zs_c_isDigit) := goodIn_app (goodIn_of _ (by decide +kernel)) (goodIn_sub (fun w h => List.mem_cons_of_mem _ (List.mem_append_right _ (List.mem_append_right _ (List.mem_append_right _ (List.mem_append_left _ h))))) gd_c_isDigit)
abbrev ws_c_endOf (cB cI cJ cZ cQ : ClassId) (aT : Nat) (fsaT : List Value) : va_W := [(aT, .inr (9, fsaT))]
set_option maxHeartbeats 4000000 in
set_option maxRecDepth 100000 in
theorem c_endOf (l : Launch) (dC : Nat → ClassId) (dI : Nat → Nat → Nat) (cB cI cJ cZ cQ : ClassId) (aT : Nat) (fsaT : List Value) (sz : Nat) (hlaT : fsaT.length = 2) (haT_1 : fsaT[1]? = some (.int 0)) : Met l yX10_endOf zs_c_endOf ({ frames := 1, cells := 0, slots := 0, locals := 21 } : Room) (zPc [.ref aT, .int 0] (dC, dI) (zTY cB cI cJ cZ cQ) (ws_c_endOf cB cI cJ cZ cQ aT fsaT) sz) (va_Qi (fun (zr : Int32) (_ : Unit) => zr = 1) (fun (_ : Unit) (t : State) => ∃ (gsaT : List Value), gsaT.length = 2 ∧ (∀ j : Nat, ¬ j ∈ ([] : List Nat) → gsaT[j]? = fsaT[j]?) ∧ va_P (dC, dI) vwCl [(aT, .inr (9, gsaT))] t.heap ∧ va_D (va_A (ws_c_endOf cB cI cJ cZ cQ aT fsaT) sz) [(aT, .inr (9, gsaT))]) (va_A (ws_c_endOf cB cI cJ cZ cQ aT fsaT) sz)) 0 0 (va_A (ws_c_endOf cB cI cJ cZ cQ aT fsaT) sz) := by
  refine Met.ofW (cc := cX10_endOf) (maxL := 4) (ret := (some .int)) (by decide) rfl ?_
  intro p e s m args below meth c s₁ B hml hv
  obtain ⟨rfl, hsz, hP0, hK, hO, hD0⟩ := hv
  have hx := B.exec
  have hb := B.bytes
  have hr := B.returns
  have hts := atoms_spec (ws := zs_c_endOf) B.pre
  have hown : s.vm.findClass RX10 = some m.cls := findClass_of_methodNamed B.named
  have hlocks := B.notSynchronized
  subst hsz
  have hD8 := hD0.self (sz := s.heap.size)
  generalize hAe : va_A (ws_c_endOf cB cI cJ cZ cQ aT fsaT) s.heap.size = A at hD8 ⊢
  have hA : ∀ q : Nat, s.heap.size ≤ q → A q := fun q h => by rw [← hAe]; exact Or.inr h
  have hS : va_S A s.heap s.heap [] := va_S.rf
  have hP : va_P (dC, dI) vwCl [(aT, .inr (9, fsaT))] s.heap := hP0
  have hD : va_D A [(aT, .inr (9, fsaT))] := hD8
  have hl := lv_entry ([.ref aT, .int 0]) (n := 4) (Nat.le_of_ble_eq_true rfl)
  rw [lg_entry_eq]
  generalize (lg_sl ([.ref aT, .int 0]) ++ List.replicate (4 - (lg_sl ([.ref aT, .int 0])).length) Slot.unset).toArray = ls at hl ⊢
  have hl : lv_has ls 4 [(0, .ref aT), (1, .int 0)] := hl
  clear hP0 hD8 hD0
  refine zH0 (fun H hP hS => ?_) hP hS
  refine lv_aload_n hx hb dX10_endOf_0 rfl (lv_at hl 0 rfl) ?_
  refine lv_iload_n hx hb dX10_endOf_1 rfl (lv_at hl 1 rfl) ?_
  have hPc : va_P (dC, dI) vwCl (ws_c_at cB cI cJ cZ cQ aT fsaT) H := hP.sub [0] rfl
  have hDc := hD.sub (ws' := (ws_c_at cB cI cJ cZ cQ aT fsaT)) [0] (by decide) rfl
  have hFc := va_free (wc := (ws_c_at cB cI cJ cZ cQ aT fsaT)) hD hS hA [0] rfl
  refine va_calli (va_runV (As := [.int 0]) (rest := []) ⟨hx, hb, hml, hown, hts⟩ (c_at l dC dI cB cI cJ cZ cQ aT fsaT H.size hlaT haT_1) (cwV 1 hts g_c_endOf_c_at_43 rfl rfl rfl (by decide +kernel) ⟨Nat.le_of_ble_eq_true rfl, Nat.le_of_ble_eq_true rfl⟩) ⟨zFB, va_recv hK hP (ci := 9) (q0 := 0) rfl rfl, fun U hU hW => zUp hU hW hPc hK hO hDc⟩ rfl rfl hl.1 rfl (lv_room (Nat.le_of_ble_eq_true rfl)) dX10_endOf_2 ⟨Nat.le_of_ble_eq_true rfl, Nat.le_of_ble_eq_true rfl⟩) hS (fun q _ h => hFc q h) hFc (fun r1 u t H1 locs ht hvm hw2 hB hz1 hk1 hS => ?_)
  obtain ⟨gs3, hgl4, hgf5, hP1, hD1⟩ := hB
  rw [ht] at hP1
  obtain ⟨hP, hD⟩ := va_join (wr := []) (w1 := [(aT, .inr (9, gs3))]) hP hD [0] [] rfl rfl (by decide) (by decide) hk1 hFc hP1 hD1
  generalize H1 = H at hP hS ⊢
  have hP : va_P (dC, dI) vwCl [(aT, .inr (9, gs3))] H := hP
  have hD : va_D A [(aT, .inr (9, gs3))] := hD
  obtain rfl : r1 = (-1) := hw2
  refine lv_istore_n (lv' := [(2, .int (-1)), (0, .ref aT), (1, .int 0)]) hx hb dX10_endOf_5 rfl hl (by decide) rfl (fun ls hl => ?_)
  refine lv_iload_n hx hb dX10_endOf_6 rfl (lv_at hl 2 rfl) ?_
  refine lv_iconst (v := 1) hx hb dX10_endOf_7 (by decide) ?_
  refine lv_iadd hx hb dX10_endOf_8 ?_
  refine lv_topi (fun x6 ex6 => ?_)
  obtain rfl : x6 = 1 := ex6.trans (by decide)
  refine lv_istore_n (lv' := [(3, .int 1), (2, .int (-1)), (0, .ref aT), (1, .int 0)]) hx hb dX10_endOf_9 rfl hl (by decide) rfl (fun ls hl => ?_)
  refine lv_iload_n hx hb dX10_endOf_10 rfl (lv_at hl 1 rfl) ?_
  have hPc : va_P (dC, dI) vwCl (ws_c_isLetter cB cI cJ cZ cQ ) H := hP.sub [] rfl
  have hDc := hD.sub (ws' := (ws_c_isLetter cB cI cJ cZ cQ )) [] (by decide) rfl
  have hFc := va_free (wc := (ws_c_isLetter cB cI cJ cZ cQ )) hD hS hA [] rfl
  refine va_calli (va_runS (As := [.int (-1)]) (rest := []) ⟨hx, hb, hml, hown, hts⟩ (c_isLetter l dC dI cB cI cJ cZ cQ  H.size) (va_cwS 1 hts g_c_endOf_c_isLetter_51 rfl rfl rfl (by decide +kernel) ⟨Nat.le_of_ble_eq_true rfl, Nat.le_of_ble_eq_true rfl⟩) ⟨zFB, fun U hU hW => zUp hU hW hPc hK hO hDc⟩ rfl rfl hl.1 rfl (lv_room (Nat.le_of_ble_eq_true rfl)) dX10_endOf_11 ⟨Nat.le_of_ble_eq_true rfl, Nat.le_of_ble_eq_true rfl⟩) hS (fun q _ h => hFc q h) hFc (fun r7 u t H1 locs ht hvm hw8 hB hz1 hk1 hS => ?_)
  have hP1 : va_P (dC, dI) vwCl [] H1 := zNilP
  have hD1 : va_D (va_A (ws_c_isLetter cB cI cJ cZ cQ ) H.size) [] := zNilD
  obtain ⟨hP, hD⟩ := va_join (wr := [(aT, .inr (9, gs3))]) (w1 := []) hP hD [] [0] rfl rfl (by decide) (by decide) hk1 hFc hP1 hD1
  generalize H1 = H at hP hS ⊢
  have hP : va_P (dC, dI) vwCl [(aT, .inr (9, gs3))] H := hP
  have hD : va_D A [(aT, .inr (9, gs3))] := hD
  obtain rfl : r7 = 0 := hw8
  refine lv_if_eq (tgt := 42) hx hb dX10_endOf_14 (by decide) (fun _ => ?_) (fun zc => absurd zc (by decide))
  refine lv_iload_n hx hb dX10_endOf_42 rfl (lv_at hl 1 rfl) ?_
  have hPc : va_P (dC, dI) vwCl (ws_c_isDigit cB cI cJ cZ cQ ) H := hP.sub [] rfl
  have hDc := hD.sub (ws' := (ws_c_isDigit cB cI cJ cZ cQ )) [] (by decide) rfl
  have hFc := va_free (wc := (ws_c_isDigit cB cI cJ cZ cQ )) hD hS hA [] rfl
  refine va_calli (va_runS (As := [.int (-1)]) (rest := []) ⟨hx, hb, hml, hown, hts⟩ (c_isDigit l dC dI cB cI cJ cZ cQ  H.size) (va_cwS 1 hts g_c_endOf_c_isDigit_54 rfl rfl rfl (by decide +kernel) ⟨Nat.le_of_ble_eq_true rfl, Nat.le_of_ble_eq_true rfl⟩) ⟨zFB, fun U hU hW => zUp hU hW hPc hK hO hDc⟩ rfl rfl hl.1 rfl (lv_room (Nat.le_of_ble_eq_true rfl)) dX10_endOf_43 ⟨Nat.le_of_ble_eq_true rfl, Nat.le_of_ble_eq_true rfl⟩) hS (fun q _ h => hFc q h) hFc (fun r9 u t H1 locs ht hvm hw10 hB hz1 hk1 hS => ?_)
  have hP1 : va_P (dC, dI) vwCl [] H1 := zNilP
  have hD1 : va_D (va_A (ws_c_isDigit cB cI cJ cZ cQ ) H.size) [] := zNilD
  obtain ⟨hP, hD⟩ := va_join (wr := [(aT, .inr (9, gs3))]) (w1 := []) hP hD [] [0] rfl rfl (by decide) (by decide) hk1 hFc hP1 hD1
  generalize H1 = H at hP hS ⊢
  have hP : va_P (dC, dI) vwCl [(aT, .inr (9, gs3))] H := hP
  have hD : va_D A [(aT, .inr (9, gs3))] := hD
  obtain rfl : r9 = 0 := hw10
  refine lv_if_eq (tgt := 74) hx hb dX10_endOf_46 (by decide) (fun _ => ?_) (fun zc => absurd zc (by decide))
  refine lv_iload_n hx hb dX10_endOf_74 rfl (lv_at hl 1 rfl) ?_
  refine lv_bipush (v := 61) hx hb dX10_endOf_75 (by decide) ?_
  refine lv_icmp_eq (tgt := 92) hx hb dX10_endOf_77 (by decide) (fun zc => absurd zc (by decide)) (fun _ => ?_)
  refine lv_iload_n hx hb dX10_endOf_80 rfl (lv_at hl 1 rfl) ?_
  refine lv_bipush (v := 33) hx hb dX10_endOf_81 (by decide) ?_
  refine lv_icmp_eq (tgt := 92) hx hb dX10_endOf_83 (by decide) (fun zc => absurd zc (by decide)) (fun _ => ?_)
  refine lv_iload_n hx hb dX10_endOf_86 rfl (lv_at hl 1 rfl) ?_
  refine lv_bipush (v := 60) hx hb dX10_endOf_87 (by decide) ?_
  refine lv_icmp_ne (tgt := 105) hx hb dX10_endOf_89 (by decide) (fun _ => ?_) (fun zc => absurd zc (by decide))
  refine lv_iload_n hx hb dX10_endOf_105 rfl (lv_at hl 0 rfl) ?_
  have hP9 : va_P (dC, dI) vwCl [(aT, .inr (9, gs3))] H := hP.sub [0] rfl
  have hD9 : va_D A [(aT, .inr (9, gs3))] := hD.sub [0] (by decide) rfl
  exact W.iret (v := 1) hx hb hr (fun t ht hW => ⟨⟨1, (), rfl, rfl, ⟨gs3, hgl4, (fun j hj => ((zfs hgf5 (by decide) hj).trans rfl)), by rw [ht]; exact hP9, hD9⟩⟩, hS.F ht⟩) hS.2.2 dX10_endOf_106

def zs_c_sortOf : List Cond := .code yX10_sortOf cX10_sortOf 4 (some .int) :: (([.methodLink RX10 43 yX9_at, .instanceMethod yX9_at, .selects RX9 yX9_at yX9_at, .initialized RX9] : List Cond) ++ (zs_c_at ++ []))
theorem gd_c_sortOf : (zs_c_sortOf).all goodWord = true := by decide +kernel
theorem g_c_sortOf_c_at_43 : GoodIn zs_c_sortOf (wsV RX10 43 RX9 yX9_at zs_c_at) := goodIn_app (goodIn_of _ (by decide +kernel)) (goodIn_sub (fun w h => List.mem_cons_of_mem _ (List.mem_append_right _ (List.mem_append_left _ h))) gd_c_at)
abbrev ws_c_sortOf (cB cI cJ cZ cQ : ClassId) (aT : Nat) (fsaT : List Value) : va_W := [(aT, .inr (9, fsaT))]
set_option maxHeartbeats 4000000 in
set_option maxRecDepth 100000 in
theorem c_sortOf (l : Launch) (dC : Nat → ClassId) (dI : Nat → Nat → Nat) (cB cI cJ cZ cQ : ClassId) (aT : Nat) (fsaT : List Value) (sz : Nat) (hlaT : fsaT.length = 2) (haT_1 : fsaT[1]? = some (.int 0)) : Met l yX10_sortOf zs_c_sortOf ({ frames := 1, cells := 0, slots := 0, locals := 21 } : Room) (zPc [.ref aT, .int 0, .int 1] (dC, dI) (zTY cB cI cJ cZ cQ) (ws_c_sortOf cB cI cJ cZ cQ aT fsaT) sz) (va_Qi (fun (zr : Int32) (_ : Unit) => zr = 1) (fun (_ : Unit) (t : State) => ∃ (gsaT : List Value), gsaT.length = 2 ∧ (∀ j : Nat, ¬ j ∈ ([] : List Nat) → gsaT[j]? = fsaT[j]?) ∧ va_P (dC, dI) vwCl [(aT, .inr (9, gsaT))] t.heap ∧ va_D (va_A (ws_c_sortOf cB cI cJ cZ cQ aT fsaT) sz) [(aT, .inr (9, gsaT))]) (va_A (ws_c_sortOf cB cI cJ cZ cQ aT fsaT) sz)) 0 0 (va_A (ws_c_sortOf cB cI cJ cZ cQ aT fsaT) sz) := by
  refine Met.ofW (cc := cX10_sortOf) (maxL := 4) (ret := (some .int)) (by decide) rfl ?_
  intro p e s m args below meth c s₁ B hml hv
  obtain ⟨rfl, hsz, hP0, hK, hO, hD0⟩ := hv
  have hx := B.exec
  have hb := B.bytes
  have hr := B.returns
  have hts := atoms_spec (ws := zs_c_sortOf) B.pre
  have hown : s.vm.findClass RX10 = some m.cls := findClass_of_methodNamed B.named
  have hlocks := B.notSynchronized
  subst hsz
  have hD8 := hD0.self (sz := s.heap.size)
  generalize hAe : va_A (ws_c_sortOf cB cI cJ cZ cQ aT fsaT) s.heap.size = A at hD8 ⊢
  have hA : ∀ q : Nat, s.heap.size ≤ q → A q := fun q h => by rw [← hAe]; exact Or.inr h
  have hS : va_S A s.heap s.heap [] := va_S.rf
  have hP : va_P (dC, dI) vwCl [(aT, .inr (9, fsaT))] s.heap := hP0
  have hD : va_D A [(aT, .inr (9, fsaT))] := hD8
  have hl := lv_entry ([.ref aT, .int 0, .int 1]) (n := 4) (Nat.le_of_ble_eq_true rfl)
  rw [lg_entry_eq]
  generalize (lg_sl ([.ref aT, .int 0, .int 1]) ++ List.replicate (4 - (lg_sl ([.ref aT, .int 0, .int 1])).length) Slot.unset).toArray = ls at hl ⊢
  have hl : lv_has ls 4 [(0, .ref aT), (1, .int 0), (2, .int 1)] := hl
  clear hP0 hD8 hD0
  refine zH0 (fun H hP hS => ?_) hP hS
  refine lv_aload_n hx hb dX10_sortOf_0 rfl (lv_at hl 0 rfl) ?_
  refine lv_iload_n hx hb dX10_sortOf_1 rfl (lv_at hl 1 rfl) ?_
  have hPc : va_P (dC, dI) vwCl (ws_c_at cB cI cJ cZ cQ aT fsaT) H := hP.sub [0] rfl
  have hDc := hD.sub (ws' := (ws_c_at cB cI cJ cZ cQ aT fsaT)) [0] (by decide) rfl
  have hFc := va_free (wc := (ws_c_at cB cI cJ cZ cQ aT fsaT)) hD hS hA [0] rfl
  refine va_calli (va_runV (As := [.int 0]) (rest := []) ⟨hx, hb, hml, hown, hts⟩ (c_at l dC dI cB cI cJ cZ cQ aT fsaT H.size hlaT haT_1) (cwV 1 hts g_c_sortOf_c_at_43 rfl rfl rfl (by decide +kernel) ⟨Nat.le_of_ble_eq_true rfl, Nat.le_of_ble_eq_true rfl⟩) ⟨zFB, va_recv hK hP (ci := 9) (q0 := 0) rfl rfl, fun U hU hW => zUp hU hW hPc hK hO hDc⟩ rfl rfl hl.1 rfl (lv_room (Nat.le_of_ble_eq_true rfl)) dX10_sortOf_2 ⟨Nat.le_of_ble_eq_true rfl, Nat.le_of_ble_eq_true rfl⟩) hS (fun q _ h => hFc q h) hFc (fun r1 u t H1 locs ht hvm hw2 hB hz1 hk1 hS => ?_)
  obtain ⟨gs3, hgl4, hgf5, hP1, hD1⟩ := hB
  rw [ht] at hP1
  obtain ⟨hP, hD⟩ := va_join (wr := []) (w1 := [(aT, .inr (9, gs3))]) hP hD [0] [] rfl rfl (by decide) (by decide) hk1 hFc hP1 hD1
  generalize H1 = H at hP hS ⊢
  have hP : va_P (dC, dI) vwCl [(aT, .inr (9, gs3))] H := hP
  have hD : va_D A [(aT, .inr (9, gs3))] := hD
  obtain rfl : r1 = (-1) := hw2
  refine lv_istore_n (lv' := [(3, .int (-1)), (0, .ref aT), (1, .int 0), (2, .int 1)]) hx hb dX10_sortOf_5 rfl hl (by decide) rfl (fun ls hl => ?_)
  refine lv_iload_n hx hb dX10_sortOf_6 rfl (lv_at hl 0 rfl) ?_
  refine lv_iconst (v := (-1)) hx hb dX10_sortOf_7 (by decide) ?_
  refine lv_icmp_ne (tgt := 13) hx hb dX10_sortOf_8 (by decide) (fun zc => absurd zc (by decide)) (fun _ => ?_)
  refine lv_iconst (v := 1) hx hb dX10_sortOf_11 (by decide) ?_
  have hP9 : va_P (dC, dI) vwCl [(aT, .inr (9, gs3))] H := hP.sub [0] rfl
  have hD9 : va_D A [(aT, .inr (9, gs3))] := hD.sub [0] (by decide) rfl
  exact W.iret (v := 1) hx hb hr (fun t ht hW => ⟨⟨1, (), rfl, rfl, ⟨gs3, hgl4, (fun j hj => ((zfs hgf5 (by decide) hj).trans rfl)), by rw [ht]; exact hP9, hD9⟩⟩, hS.F ht⟩) hS.2.2 dX10_sortOf_12

def zs_c_valueOf : List Cond := .code yX10_valueOf cX10_valueOf 7 (some .long) :: (([.methodLink RX10 43 yX9_at, .instanceMethod yX9_at, .selects RX9 yX9_at yX9_at, .initialized RX9, .methodLink RX10 54 yX10_isDigit, .static yX10_isDigit, .initialized RX10, .methodLink RX10 51 yX10_isLetter, .static yX10_isLetter] : List Cond) ++ (zs_c_at ++ (zs_c_isDigit ++ (zs_c_isLetter ++ []))))
theorem gd_c_valueOf : (zs_c_valueOf).all goodWord = true := by decide +kernel
theorem g_c_valueOf_c_at_43 : GoodIn zs_c_valueOf (wsV RX10 43 RX9 yX9_at zs_c_at) := goodIn_app (goodIn_of _ (by decide +kernel)) (goodIn_sub (fun w h => List.mem_cons_of_mem _ (List.mem_append_right _ (List.mem_append_left _ h))) gd_c_at)
theorem g_c_valueOf_c_isDigit_54 : GoodIn zs_c_valueOf (va_wsS RX10 54 yX10_isDigit zs_c_isDigit) := goodIn_app (goodIn_of _ (by decide +kernel)) (goodIn_sub (fun w h => List.mem_cons_of_mem _ (List.mem_append_right _ (List.mem_append_right _ (List.mem_append_left _ h)))) gd_c_isDigit)
theorem g_c_valueOf_c_isLetter_51 : GoodIn zs_c_valueOf (va_wsS RX10 51 yX10_isLetter zs_c_isLetter) := goodIn_app (goodIn_of _ (by decide +kernel)) (goodIn_sub (fun w h => List.mem_cons_of_mem _ (List.mem_append_right _ (List.mem_append_right _ (List.mem_append_right _ (List.mem_append_left _ h))))) gd_c_isLetter)
abbrev ws_c_valueOf (cB cI cJ cZ cQ : ClassId) (aT : Nat) (fsaT : List Value) : va_W := [(aT, .inr (9, fsaT))]
set_option maxHeartbeats 4000000 in
set_option maxRecDepth 100000 in
theorem c_valueOf (l : Launch) (dC : Nat → ClassId) (dI : Nat → Nat → Nat) (cB cI cJ cZ cQ : ClassId) (aT : Nat) (fsaT : List Value) (sz : Nat) (hlaT : fsaT.length = 2) (haT_1 : fsaT[1]? = some (.int 0)) : Met l yX10_valueOf zs_c_valueOf ({ frames := 1, cells := 0, slots := 0, locals := 21 } : Room) (zPc [.ref aT, .int 0, .int 1] (dC, dI) (zTY cB cI cJ cZ cQ) (ws_c_valueOf cB cI cJ cZ cQ aT fsaT) sz) (va_Ql (fun (_ : Int64) (_ : Unit) => True) (fun (_ : Unit) (t : State) => ∃ (gsaT : List Value), gsaT.length = 2 ∧ (∀ j : Nat, ¬ j ∈ ([] : List Nat) → gsaT[j]? = fsaT[j]?) ∧ va_P (dC, dI) vwCl [(aT, .inr (9, gsaT))] t.heap ∧ va_D (va_A (ws_c_valueOf cB cI cJ cZ cQ aT fsaT) sz) [(aT, .inr (9, gsaT))]) (va_A (ws_c_valueOf cB cI cJ cZ cQ aT fsaT) sz)) 0 0 (va_A (ws_c_valueOf cB cI cJ cZ cQ aT fsaT) sz) := by
  refine Met.ofW (cc := cX10_valueOf) (maxL := 7) (ret := (some .long)) (by decide) rfl ?_
  intro p e s m args below meth c s₁ B hml hv
  obtain ⟨rfl, hsz, hP0, hK, hO, hD0⟩ := hv
  have hx := B.exec
  have hb := B.bytes
  have hr := B.returns
  have hts := atoms_spec (ws := zs_c_valueOf) B.pre
  have hown : s.vm.findClass RX10 = some m.cls := findClass_of_methodNamed B.named
  have hlocks := B.notSynchronized
  subst hsz
  have hD8 := hD0.self (sz := s.heap.size)
  generalize hAe : va_A (ws_c_valueOf cB cI cJ cZ cQ aT fsaT) s.heap.size = A at hD8 ⊢
  have hA : ∀ q : Nat, s.heap.size ≤ q → A q := fun q h => by rw [← hAe]; exact Or.inr h
  have hS : va_S A s.heap s.heap [] := va_S.rf
  have hP : va_P (dC, dI) vwCl [(aT, .inr (9, fsaT))] s.heap := hP0
  have hD : va_D A [(aT, .inr (9, fsaT))] := hD8
  have hl := lv_entry ([.ref aT, .int 0, .int 1]) (n := 7) (Nat.le_of_ble_eq_true rfl)
  rw [lg_entry_eq]
  generalize (lg_sl ([.ref aT, .int 0, .int 1]) ++ List.replicate (7 - (lg_sl ([.ref aT, .int 0, .int 1])).length) Slot.unset).toArray = ls at hl ⊢
  have hl : lv_has ls 7 [(0, .ref aT), (1, .int 0), (2, .int 1)] := hl
  clear hP0 hD8 hD0
  refine zH0 (fun H hP hS => ?_) hP hS
  refine lv_lconst (v := 0) hx hb dX10_valueOf_0 (by decide) ?_
  refine lv_lstore_n (lv' := [(3, .long 0), (0, .ref aT), (1, .int 0), (2, .int 1)]) hx hb dX10_valueOf_1 rfl hl (by decide) rfl (fun ls hl => ?_)
  refine lv_iload_n hx hb dX10_valueOf_2 rfl (lv_at hl 2 rfl) ?_
  refine lv_istore (lv' := [(5, .int 0), (3, .long 0), (0, .ref aT), (1, .int 0), (2, .int 1)]) hx hb dX10_valueOf_3 hl (by decide) rfl (fun ls hl => ?_)
  refine lv_iload hx hb dX10_valueOf_5 (lv_at hl 0 rfl) ?_
  refine lv_iload_n hx hb dX10_valueOf_7 rfl (lv_at hl 4 rfl) ?_
  refine lv_icmp_ge (tgt := 72) hx hb dX10_valueOf_8 (by decide) (fun zc => absurd zc (by decide)) (fun _ => ?_)
  refine lv_aload_n hx hb dX10_valueOf_11 rfl (lv_at hl 2 rfl) ?_
  refine lv_iload hx hb dX10_valueOf_12 (lv_at hl 0 rfl) ?_
  have hPc : va_P (dC, dI) vwCl (ws_c_at cB cI cJ cZ cQ aT fsaT) H := hP.sub [0] rfl
  have hDc := hD.sub (ws' := (ws_c_at cB cI cJ cZ cQ aT fsaT)) [0] (by decide) rfl
  have hFc := va_free (wc := (ws_c_at cB cI cJ cZ cQ aT fsaT)) hD hS hA [0] rfl
  refine va_calli (va_runV (As := [.int 0]) (rest := []) ⟨hx, hb, hml, hown, hts⟩ (c_at l dC dI cB cI cJ cZ cQ aT fsaT H.size hlaT haT_1) (cwV 1 hts g_c_valueOf_c_at_43 rfl rfl rfl (by decide +kernel) ⟨Nat.le_of_ble_eq_true rfl, Nat.le_of_ble_eq_true rfl⟩) ⟨zFB, va_recv hK hP (ci := 9) (q0 := 0) rfl rfl, fun U hU hW => zUp hU hW hPc hK hO hDc⟩ rfl rfl hl.1 rfl (lv_room (Nat.le_of_ble_eq_true rfl)) dX10_valueOf_14 ⟨Nat.le_of_ble_eq_true rfl, Nat.le_of_ble_eq_true rfl⟩) hS (fun q _ h => hFc q h) hFc (fun r1 u t H1 locs ht hvm hw2 hB hz1 hk1 hS => ?_)
  obtain ⟨gs3, hgl4, hgf5, hP1, hD1⟩ := hB
  rw [ht] at hP1
  obtain ⟨hP, hD⟩ := va_join (wr := []) (w1 := [(aT, .inr (9, gs3))]) hP hD [0] [] rfl rfl (by decide) (by decide) hk1 hFc hP1 hD1
  generalize H1 = H at hP hS ⊢
  have hP : va_P (dC, dI) vwCl [(aT, .inr (9, gs3))] H := hP
  have hD : va_D A [(aT, .inr (9, gs3))] := hD
  obtain rfl : r1 = (-1) := hw2
  refine lv_istore (lv' := [(6, .int (-1)), (5, .int 0), (3, .long 0), (0, .ref aT), (1, .int 0), (2, .int 1)]) hx hb dX10_valueOf_17 hl (by decide) rfl (fun ls hl => ?_)
  refine lv_iload hx hb dX10_valueOf_19 (lv_at hl 0 rfl) ?_
  have hPc : va_P (dC, dI) vwCl (ws_c_isDigit cB cI cJ cZ cQ ) H := hP.sub [] rfl
  have hDc := hD.sub (ws' := (ws_c_isDigit cB cI cJ cZ cQ )) [] (by decide) rfl
  have hFc := va_free (wc := (ws_c_isDigit cB cI cJ cZ cQ )) hD hS hA [] rfl
  refine va_calli (va_runS (As := [.int (-1)]) (rest := []) ⟨hx, hb, hml, hown, hts⟩ (c_isDigit l dC dI cB cI cJ cZ cQ  H.size) (va_cwS 1 hts g_c_valueOf_c_isDigit_54 rfl rfl rfl (by decide +kernel) ⟨Nat.le_of_ble_eq_true rfl, Nat.le_of_ble_eq_true rfl⟩) ⟨zFB, fun U hU hW => zUp hU hW hPc hK hO hDc⟩ rfl rfl hl.1 rfl (lv_room (Nat.le_of_ble_eq_true rfl)) dX10_valueOf_21 ⟨Nat.le_of_ble_eq_true rfl, Nat.le_of_ble_eq_true rfl⟩) hS (fun q _ h => hFc q h) hFc (fun r6 u t H1 locs ht hvm hw7 hB hz1 hk1 hS => ?_)
  have hP1 : va_P (dC, dI) vwCl [] H1 := zNilP
  have hD1 : va_D (va_A (ws_c_isDigit cB cI cJ cZ cQ ) H.size) [] := zNilD
  obtain ⟨hP, hD⟩ := va_join (wr := [(aT, .inr (9, gs3))]) (w1 := []) hP hD [] [0] rfl rfl (by decide) (by decide) hk1 hFc hP1 hD1
  generalize H1 = H at hP hS ⊢
  have hP : va_P (dC, dI) vwCl [(aT, .inr (9, gs3))] H := hP
  have hD : va_D A [(aT, .inr (9, gs3))] := hD
  obtain rfl : r6 = 0 := hw7
  refine lv_if_eq (tgt := 43) hx hb dX10_valueOf_24 (by decide) (fun _ => ?_) (fun zc => absurd zc (by decide))
  refine lv_iload hx hb dX10_valueOf_43 (lv_at hl 0 rfl) ?_
  have hPc : va_P (dC, dI) vwCl (ws_c_isLetter cB cI cJ cZ cQ ) H := hP.sub [] rfl
  have hDc := hD.sub (ws' := (ws_c_isLetter cB cI cJ cZ cQ )) [] (by decide) rfl
  have hFc := va_free (wc := (ws_c_isLetter cB cI cJ cZ cQ )) hD hS hA [] rfl
  refine va_calli (va_runS (As := [.int (-1)]) (rest := []) ⟨hx, hb, hml, hown, hts⟩ (c_isLetter l dC dI cB cI cJ cZ cQ  H.size) (va_cwS 1 hts g_c_valueOf_c_isLetter_51 rfl rfl rfl (by decide +kernel) ⟨Nat.le_of_ble_eq_true rfl, Nat.le_of_ble_eq_true rfl⟩) ⟨zFB, fun U hU hW => zUp hU hW hPc hK hO hDc⟩ rfl rfl hl.1 rfl (lv_room (Nat.le_of_ble_eq_true rfl)) dX10_valueOf_45 ⟨Nat.le_of_ble_eq_true rfl, Nat.le_of_ble_eq_true rfl⟩) hS (fun q _ h => hFc q h) hFc (fun r8 u t H1 locs ht hvm hw9 hB hz1 hk1 hS => ?_)
  have hP1 : va_P (dC, dI) vwCl [] H1 := zNilP
  have hD1 : va_D (va_A (ws_c_isLetter cB cI cJ cZ cQ ) H.size) [] := zNilD
  obtain ⟨hP, hD⟩ := va_join (wr := [(aT, .inr (9, gs3))]) (w1 := []) hP hD [] [0] rfl rfl (by decide) (by decide) hk1 hFc hP1 hD1
  generalize H1 = H at hP hS ⊢
  have hP : va_P (dC, dI) vwCl [(aT, .inr (9, gs3))] H := hP
  have hD : va_D A [(aT, .inr (9, gs3))] := hD
  obtain rfl : r8 = 0 := hw9
  refine lv_if_eq (tgt := 66) hx hb dX10_valueOf_48 (by decide) (fun _ => ?_) (fun zc => absurd zc (by decide))
  refine lv_iinc (v := 1) (lv' := [(5, .int 1), (6, .int (-1)), (3, .long 0), (0, .ref aT), (1, .int 0), (2, .int 1)]) hx hb dX10_valueOf_66 hl (k := 1) rfl (by decide) (by decide) rfl (fun ls hl => ?_)
  refine lv_goto (tgt := 5) hx hb dX10_valueOf_69 (by decide) ?_
  refine lv_iload hx hb dX10_valueOf_5 (lv_at hl 0 rfl) ?_
  refine lv_iload_n hx hb dX10_valueOf_7 rfl (lv_at hl 5 rfl) ?_
  refine lv_icmp_ge (tgt := 72) hx hb dX10_valueOf_8 (by decide) (fun _ => ?_) (fun zc => absurd zc (by decide))
  refine lv_lload_n hx hb dX10_valueOf_72 rfl (lv_at hl 2 rfl) ?_
  have hP9 : va_P (dC, dI) vwCl [(aT, .inr (9, gs3))] H := hP.sub [0] rfl
  have hD9 : va_D A [(aT, .inr (9, gs3))] := hD.sub [0] (by decide) rfl
  exact W.lret (v := 0) hx hb hr (fun t ht hW => ⟨⟨0, (), rfl, trivial, ⟨gs3, hgl4, (fun j hj => ((zfs hgf5 (by decide) hj).trans rfl)), by rw [ht]; exact hP9, hD9⟩⟩, hS.F ht⟩) hS.2.2 dX10_valueOf_73

def zs_c_scan : List Cond := .code yX10_scan cX10_scan 5 none :: (([.fieldLink RX10 15 "LanternHouse$Tokens" "places" "[I", .fieldLink RX10 11 "LanternHouse$Tokens" "sorts" "[I", .fieldLink RX10 18 "LanternHouse$Tokens" "values" "[J", .methodLink RX10 22 yX10_pastBlanks, .static yX10_pastBlanks, .initialized RX10, .methodLink RX10 26 yX10_endOf, .static yX10_endOf, .methodLink RX10 29 yX10_sortOf, .static yX10_sortOf, .methodLink RX10 33 yX10_valueOf, .static yX10_valueOf] : List Cond) ++ (zs_c_pastBlanks ++ (zs_c_endOf ++ (zs_c_sortOf ++ (zs_c_valueOf ++ (wsX100 ++ []))))))
theorem gd_c_scan : (zs_c_scan).all goodWord = true := by decide +kernel
theorem in_c_scan_10 : ∀ w ∈ wsX100, w ∈ zs_c_scan := fun w h => List.mem_cons_of_mem _ (List.mem_append_right _ (List.mem_append_right _ (List.mem_append_right _ (List.mem_append_right _ (List.mem_append_right _ (List.mem_append_left _ h))))))
theorem g_c_scan_c_pastBlanks_22 : GoodIn zs_c_scan (va_wsS RX10 22 yX10_pastBlanks zs_c_pastBlanks) := goodIn_app (goodIn_of _ (by decide +kernel)) (goodIn_sub (fun w h => List.mem_cons_of_mem _ (List.mem_append_right _ (List.mem_append_left _ h))) gd_c_pastBlanks)
theorem g_c_scan_c_endOf_26 : GoodIn zs_c_scan (va_wsS RX10 26 yX10_endOf zs_c_endOf) := goodIn_app (goodIn_of _ (by decide +kernel)) (goodIn_sub (fun w h => List.mem_cons_of_mem _ (List.mem_append_right _ (List.mem_append_right _ (List.mem_append_left _ h)))) gd_c_endOf)
theorem g_c_scan_c_sortOf_29 : GoodIn zs_c_scan (va_wsS RX10 29 yX10_sortOf zs_c_sortOf) := goodIn_app (goodIn_of _ (by decide +kernel)) (goodIn_sub (fun w h => List.mem_cons_of_mem _ (List.mem_append_right _ (List.mem_append_right _ (List.mem_append_right _ (List.mem_append_left _ h))))) gd_c_sortOf)
theorem g_c_scan_c_valueOf_33 : GoodIn zs_c_scan (va_wsS RX10 33 yX10_valueOf zs_c_valueOf) := goodIn_app (goodIn_of _ (by decide +kernel)) (goodIn_sub (fun w h => List.mem_cons_of_mem _ (List.mem_append_right _ (List.mem_append_right _ (List.mem_append_right _ (List.mem_append_right _ (List.mem_append_left _ h)))))) gd_c_valueOf)
abbrev ws_c_scan (cB cI cJ cZ cQ : ClassId) (aTk aT qS qP qV : Nat) (fS : Nat → Int32) (fP : Nat → Int32) (fV : Nat → Int64) (fsaTk : List Value) (fsaT : List Value) : va_W := [(aTk, .inr (10, fsaTk)), (aT, .inr (9, fsaT)), (qS, .inl (cI, 601, .inl fS)), (qP, .inl (cI, 601, .inl fP)), (qV, .inl (cJ, 601, .inr (.inl fV)))]
set_option maxHeartbeats 4000000 in
set_option maxRecDepth 100000 in
theorem c_scan (l : Launch) (dC : Nat → ClassId) (dI : Nat → Nat → Nat) (cB cI cJ cZ cQ : ClassId) (aTk aT qS qP qV : Nat) (fS : Nat → Int32) (fP : Nat → Int32) (fV : Nat → Int64) (fsaTk : List Value) (fsaT : List Value) (sz : Nat) (hlaTk : fsaTk.length = 3) (haTk_0 : fsaTk[0]? = some (.ref qS)) (haTk_1 : fsaTk[1]? = some (.ref qP)) (haTk_2 : fsaTk[2]? = some (.ref qV)) (hlaT : fsaT.length = 2) (haT_1 : fsaT[1]? = some (.int 0)) : Met l yX10_scan zs_c_scan ({ frames := 2, cells := 0, slots := 0, locals := 47 } : Room) (zPc [.ref aTk, .ref aT] (dC, dI) (zTY cB cI cJ cZ cQ) (ws_c_scan cB cI cJ cZ cQ aTk aT qS qP qV fS fP fV fsaTk fsaT) sz) (va_Qv (fun (_ : Unit) => True) (fun (_ : Unit) (t : State) => ∃ (fS2 : Nat → Int32), ∃ (gsaTk : List Value), ∃ (gsaT : List Value), gsaTk.length = 3 ∧ (∀ j : Nat, ¬ j ∈ ([] : List Nat) → gsaTk[j]? = fsaTk[j]?) ∧ gsaT.length = 2 ∧ (∀ j : Nat, ¬ j ∈ ([] : List Nat) → gsaT[j]? = fsaT[j]?) ∧ fS2 (0 : Int32).toNatClampNeg = 1 ∧ va_P (dC, dI) vwCl [(aTk, .inr (10, gsaTk)), (aT, .inr (9, gsaT)), (qS, .inl (cI, 601, .inl fS2))] t.heap ∧ va_D (va_A (ws_c_scan cB cI cJ cZ cQ aTk aT qS qP qV fS fP fV fsaTk fsaT) sz) [(aTk, .inr (10, gsaTk)), (aT, .inr (9, gsaT)), (qS, .inl (cI, 601, .inl fS2))]) (va_A (ws_c_scan cB cI cJ cZ cQ aTk aT qS qP qV fS fP fV fsaTk fsaT) sz)) 0 0 (va_A (ws_c_scan cB cI cJ cZ cQ aTk aT qS qP qV fS fP fV fsaTk fsaT) sz) := by
  refine Met.ofW (cc := cX10_scan) (maxL := 5) (ret := none) (by decide) rfl ?_
  intro p e s m args below meth c s₁ B hml hv
  obtain ⟨rfl, hsz, hP0, hK, hO, hD0⟩ := hv
  have hx := B.exec
  have hb := B.bytes
  have hr := B.returns
  have hts := atoms_spec (ws := zs_c_scan) B.pre
  have hown : s.vm.findClass RX10 = some m.cls := findClass_of_methodNamed B.named
  have hlocks := B.notSynchronized
  subst hsz
  have hD8 := hD0.self (sz := s.heap.size)
  generalize hAe : va_A (ws_c_scan cB cI cJ cZ cQ aTk aT qS qP qV fS fP fV fsaTk fsaT) s.heap.size = A at hD8 ⊢
  have hA : ∀ q : Nat, s.heap.size ≤ q → A q := fun q h => by rw [← hAe]; exact Or.inr h
  have hS : va_S A s.heap s.heap [] := va_S.rf
  have hP : va_P (dC, dI) vwCl [(aTk, .inr (10, fsaTk)), (aT, .inr (9, fsaT)), (qS, .inl (cI, 601, .inl fS)), (qP, .inl (cI, 601, .inl fP)), (qV, .inl (cJ, 601, .inr (.inl fV)))] s.heap := hP0
  have hD : va_D A [(aTk, .inr (10, fsaTk)), (aT, .inr (9, fsaT)), (qS, .inl (cI, 601, .inl fS)), (qP, .inl (cI, 601, .inl fP)), (qV, .inl (cJ, 601, .inr (.inl fV)))] := hD8
  have hl := lv_entry ([.ref aTk, .ref aT]) (n := 5) (Nat.le_of_ble_eq_true rfl)
  rw [lg_entry_eq]
  generalize (lg_sl ([.ref aTk, .ref aT]) ++ List.replicate (5 - (lg_sl ([.ref aTk, .ref aT])).length) Slot.unset).toArray = ls at hl ⊢
  have hl : lv_has ls 5 [(0, .ref aTk), (1, .ref aT)] := hl
  clear hP0 hD8 hD0
  refine zH0 (fun H hP hS => ?_) hP hS
  refine lv_iconst (v := 0) hx hb dX10_scan_0 (by decide) ?_
  refine lv_istore_n (lv' := [(2, .int 0), (0, .ref aTk), (1, .ref aT)]) hx hb dX10_scan_1 rfl hl (by decide) rfl (fun ls hl => ?_)
  refine lv_iconst (v := 0) hx hb dX10_scan_2 (by decide) ?_
  refine lv_istore_n (lv' := [(3, .int 0), (2, .int 0), (0, .ref aTk), (1, .ref aT)]) hx hb dX10_scan_3 rfl hl (by decide) rfl (fun ls hl => ?_)
  refine lv_iload_n hx hb dX10_scan_4 rfl (lv_at hl 0 rfl) ?_
  refine lv_sipush (v := 600) hx hb dX10_scan_5 (by decide) ?_
  refine lv_icmp_gt (tgt := 87) hx hb dX10_scan_8 (by decide) (fun zc => absurd zc (by decide)) (fun _ => ?_)
  refine lv_aload_n hx hb dX10_scan_11 rfl (lv_at hl 3 rfl) ?_
  refine lv_iload_n hx hb dX10_scan_12 rfl (lv_at hl 1 rfl) ?_
  have hPc : va_P (dC, dI) vwCl (ws_c_pastBlanks cB cI cJ cZ cQ aT fsaT) H := hP.sub [1] rfl
  have hDc := hD.sub (ws' := (ws_c_pastBlanks cB cI cJ cZ cQ aT fsaT)) [1] (by decide) rfl
  have hFc := va_free (wc := (ws_c_pastBlanks cB cI cJ cZ cQ aT fsaT)) hD hS hA [1] rfl
  refine va_calli (va_runS (As := [.ref aT, .int 0]) (rest := []) ⟨hx, hb, hml, hown, hts⟩ (c_pastBlanks l dC dI cB cI cJ cZ cQ aT fsaT H.size hlaT haT_1) (va_cwS 2 hts g_c_scan_c_pastBlanks_22 rfl rfl rfl (by decide +kernel) ⟨Nat.le_of_ble_eq_true rfl, Nat.le_of_ble_eq_true rfl⟩) ⟨zFB, fun U hU hW => zUp hU hW hPc hK hO hDc⟩ rfl rfl hl.1 rfl (lv_room (Nat.le_of_ble_eq_true rfl)) dX10_scan_13 ⟨Nat.le_of_ble_eq_true rfl, Nat.le_of_ble_eq_true rfl⟩) hS (fun q _ h => hFc q h) hFc (fun r1 u t H1 locs ht hvm hw2 hB hz1 hk1 hS => ?_)
  obtain ⟨gs3, hgl4, hgf5, hP1, hD1⟩ := hB
  rw [ht] at hP1
  obtain ⟨hP, hD⟩ := va_join (wr := [(aTk, .inr (10, fsaTk)), (qS, .inl (cI, 601, .inl fS)), (qP, .inl (cI, 601, .inl fP)), (qV, .inl (cJ, 601, .inr (.inl fV)))]) (w1 := [(aT, .inr (9, gs3))]) hP hD [1] [0, 2, 3, 4] rfl rfl (by decide) (by decide) hk1 hFc hP1 hD1
  generalize H1 = H at hP hS ⊢
  have hP : va_P (dC, dI) vwCl [(aTk, .inr (10, fsaTk)), (qS, .inl (cI, 601, .inl fS)), (qP, .inl (cI, 601, .inl fP)), (qV, .inl (cJ, 601, .inr (.inl fV))), (aT, .inr (9, gs3))] H := hP
  have hD : va_D A [(aTk, .inr (10, fsaTk)), (qS, .inl (cI, 601, .inl fS)), (qP, .inl (cI, 601, .inl fP)), (qV, .inl (cJ, 601, .inr (.inl fV))), (aT, .inr (9, gs3))] := hD
  obtain rfl : r1 = 0 := hw2
  refine lv_istore_n (lv' := [(2, .int 0), (3, .int 0), (0, .ref aTk), (1, .ref aT)]) hx hb dX10_scan_16 rfl hl (by decide) rfl (fun ls hl => ?_)
  refine lv_aload_n hx hb dX10_scan_17 rfl (lv_at hl 3 rfl) ?_
  refine lv_iload_n hx hb dX10_scan_18 rfl (lv_at hl 0 rfl) ?_
  have hPc : va_P (dC, dI) vwCl (ws_c_endOf cB cI cJ cZ cQ aT gs3) H := hP.sub [4] rfl
  have hDc := hD.sub (ws' := (ws_c_endOf cB cI cJ cZ cQ aT gs3)) [4] (by decide) rfl
  have hFc := va_free (wc := (ws_c_endOf cB cI cJ cZ cQ aT gs3)) hD hS hA [4] rfl
  refine va_calli (va_runS (As := [.ref aT, .int 0]) (rest := []) ⟨hx, hb, hml, hown, hts⟩ (c_endOf l dC dI cB cI cJ cZ cQ aT gs3 H.size hgl4 ((hgf5 1 (by decide)).trans haT_1)) (va_cwS 2 hts g_c_scan_c_endOf_26 rfl rfl rfl (by decide +kernel) ⟨Nat.le_of_ble_eq_true rfl, Nat.le_of_ble_eq_true rfl⟩) ⟨zFB, fun U hU hW => zUp hU hW hPc hK hO hDc⟩ rfl rfl hl.1 rfl (lv_room (Nat.le_of_ble_eq_true rfl)) dX10_scan_19 ⟨Nat.le_of_ble_eq_true rfl, Nat.le_of_ble_eq_true rfl⟩) hS (fun q _ h => hFc q h) hFc (fun r6 u t H1 locs ht hvm hw7 hB hz1 hk1 hS => ?_)
  obtain ⟨gs8, hgl9, hgf10, hP1, hD1⟩ := hB
  rw [ht] at hP1
  obtain ⟨hP, hD⟩ := va_join (wr := [(aTk, .inr (10, fsaTk)), (qS, .inl (cI, 601, .inl fS)), (qP, .inl (cI, 601, .inl fP)), (qV, .inl (cJ, 601, .inr (.inl fV)))]) (w1 := [(aT, .inr (9, gs8))]) hP hD [4] [0, 1, 2, 3] rfl rfl (by decide) (by decide) hk1 hFc hP1 hD1
  generalize H1 = H at hP hS ⊢
  have hP : va_P (dC, dI) vwCl [(aTk, .inr (10, fsaTk)), (qS, .inl (cI, 601, .inl fS)), (qP, .inl (cI, 601, .inl fP)), (qV, .inl (cJ, 601, .inr (.inl fV))), (aT, .inr (9, gs8))] H := hP
  have hD : va_D A [(aTk, .inr (10, fsaTk)), (qS, .inl (cI, 601, .inl fS)), (qP, .inl (cI, 601, .inl fP)), (qV, .inl (cJ, 601, .inr (.inl fV))), (aT, .inr (9, gs8))] := hD
  obtain rfl : r6 = 1 := hw7
  refine lv_istore (lv' := [(4, .int 1), (2, .int 0), (3, .int 0), (0, .ref aTk), (1, .ref aT)]) hx hb dX10_scan_22 hl (by decide) rfl (fun ls hl => ?_)
  refine lv_aload_n hx hb dX10_scan_24 rfl (lv_at hl 3 rfl) ?_
  refine va_get (D := (dC, dI)) (ci := 10) (v := .ref qP) (C := RX10) (T := TX10) (N := 3) hx hb hts in_c_scan_10 hown hK hP 0 rfl rfl 1 (by decide) (hts (.fieldLink RX10 15 "LanternHouse$Tokens" "places" "[I") (by decide +kernel)) (fun _ h9 => h9) haTk_1 dX10_scan_25 ?_
  refine lv_iload_n hx hb dX10_scan_28 rfl (lv_at hl 2 rfl) ?_
  refine lv_iload_n hx hb dX10_scan_29 rfl (lv_at hl 1 rfl) ?_
  refine z_iast hx hb hK hP hD hS 2 1 rfl rfl (show ¬ ((0 : Int32) < 0 ∨ 601 ≤ (0 : Int32).toNatClampNeg) from by decide) dX10_scan_30 (fun H locs g11 hg11 hP hD hS => ?_)
  have hP : va_P (dC, dI) vwCl [(aTk, .inr (10, fsaTk)), (qS, .inl (cI, 601, .inl fS)), (qP, .inl (cI, 601, .inl g11)), (qV, .inl (cJ, 601, .inr (.inl fV))), (aT, .inr (9, gs8))] H := hP
  have hD : va_D A [(aTk, .inr (10, fsaTk)), (qS, .inl (cI, 601, .inl fS)), (qP, .inl (cI, 601, .inl g11)), (qV, .inl (cJ, 601, .inr (.inl fV))), (aT, .inr (9, gs8))] := hD
  refine lv_aload_n hx hb dX10_scan_31 rfl (lv_at hl 3 rfl) ?_
  refine va_get (D := (dC, dI)) (ci := 10) (v := .ref qS) (C := RX10) (T := TX10) (N := 3) hx hb hts in_c_scan_10 hown hK hP 0 rfl rfl 0 (by decide) (hts (.fieldLink RX10 11 "LanternHouse$Tokens" "sorts" "[I") (by decide +kernel)) (fun _ h9 => h9) haTk_0 dX10_scan_32 ?_
  refine lv_iload_n hx hb dX10_scan_35 rfl (lv_at hl 2 rfl) ?_
  refine lv_aload_n hx hb dX10_scan_36 rfl (lv_at hl 4 rfl) ?_
  refine lv_iload_n hx hb dX10_scan_37 rfl (lv_at hl 1 rfl) ?_
  refine lv_iload hx hb dX10_scan_38 (lv_at hl 0 rfl) ?_
  have hPc : va_P (dC, dI) vwCl (ws_c_sortOf cB cI cJ cZ cQ aT gs8) H := hP.sub [4] rfl
  have hDc := hD.sub (ws' := (ws_c_sortOf cB cI cJ cZ cQ aT gs8)) [4] (by decide) rfl
  have hFc := va_free (wc := (ws_c_sortOf cB cI cJ cZ cQ aT gs8)) hD hS hA [4] rfl
  refine va_calli (va_runS (As := [.ref aT, .int 0, .int 1]) (rest := [.int 0, .ref qS]) ⟨hx, hb, hml, hown, hts⟩ (c_sortOf l dC dI cB cI cJ cZ cQ aT gs8 H.size hgl9 ((hgf10 1 (by decide)).trans ((hgf5 1 (by decide)).trans haT_1))) (va_cwS 3 hts g_c_scan_c_sortOf_29 rfl rfl rfl (by decide +kernel) ⟨Nat.le_of_ble_eq_true rfl, Nat.le_of_ble_eq_true rfl⟩) ⟨zFB, fun U hU hW => zUp hU hW hPc hK hO hDc⟩ rfl rfl hl.1 rfl (lv_room (Nat.le_of_ble_eq_true rfl)) dX10_scan_40 ⟨Nat.le_of_ble_eq_true rfl, Nat.le_of_ble_eq_true rfl⟩) hS (fun q _ h => hFc q h) hFc (fun r12 u t H1 locs ht hvm hw13 hB hz1 hk1 hS => ?_)
  obtain ⟨gs14, hgl15, hgf16, hP1, hD1⟩ := hB
  rw [ht] at hP1
  obtain ⟨hP, hD⟩ := va_join (wr := [(aTk, .inr (10, fsaTk)), (qS, .inl (cI, 601, .inl fS)), (qP, .inl (cI, 601, .inl g11)), (qV, .inl (cJ, 601, .inr (.inl fV)))]) (w1 := [(aT, .inr (9, gs14))]) hP hD [4] [0, 1, 2, 3] rfl rfl (by decide) (by decide) hk1 hFc hP1 hD1
  generalize H1 = H at hP hS ⊢
  have hP : va_P (dC, dI) vwCl [(aTk, .inr (10, fsaTk)), (qS, .inl (cI, 601, .inl fS)), (qP, .inl (cI, 601, .inl g11)), (qV, .inl (cJ, 601, .inr (.inl fV))), (aT, .inr (9, gs14))] H := hP
  have hD : va_D A [(aTk, .inr (10, fsaTk)), (qS, .inl (cI, 601, .inl fS)), (qP, .inl (cI, 601, .inl g11)), (qV, .inl (cJ, 601, .inr (.inl fV))), (aT, .inr (9, gs14))] := hD
  obtain rfl : r12 = 1 := hw13
  refine z_iast hx hb hK hP hD hS 1 1 rfl rfl (show ¬ ((0 : Int32) < 0 ∨ 601 ≤ (0 : Int32).toNatClampNeg) from by decide) dX10_scan_43 (fun H locs g17 hg17 hP hD hS => ?_)
  have hP : va_P (dC, dI) vwCl [(aTk, .inr (10, fsaTk)), (qS, .inl (cI, 601, .inl g17)), (qP, .inl (cI, 601, .inl g11)), (qV, .inl (cJ, 601, .inr (.inl fV))), (aT, .inr (9, gs14))] H := hP
  have hD : va_D A [(aTk, .inr (10, fsaTk)), (qS, .inl (cI, 601, .inl g17)), (qP, .inl (cI, 601, .inl g11)), (qV, .inl (cJ, 601, .inr (.inl fV))), (aT, .inr (9, gs14))] := hD
  refine lv_aload_n hx hb dX10_scan_44 rfl (lv_at hl 3 rfl) ?_
  refine va_get (D := (dC, dI)) (ci := 10) (v := .ref qV) (C := RX10) (T := TX10) (N := 3) hx hb hts in_c_scan_10 hown hK hP 0 rfl rfl 2 (by decide) (hts (.fieldLink RX10 18 "LanternHouse$Tokens" "values" "[J") (by decide +kernel)) (fun _ h9 => h9) haTk_2 dX10_scan_45 ?_
  refine lv_iload_n hx hb dX10_scan_48 rfl (lv_at hl 2 rfl) ?_
  refine lv_aload_n hx hb dX10_scan_49 rfl (lv_at hl 4 rfl) ?_
  refine lv_iload_n hx hb dX10_scan_50 rfl (lv_at hl 1 rfl) ?_
  refine lv_iload hx hb dX10_scan_51 (lv_at hl 0 rfl) ?_
  have hPc : va_P (dC, dI) vwCl (ws_c_valueOf cB cI cJ cZ cQ aT gs14) H := hP.sub [4] rfl
  have hDc := hD.sub (ws' := (ws_c_valueOf cB cI cJ cZ cQ aT gs14)) [4] (by decide) rfl
  have hFc := va_free (wc := (ws_c_valueOf cB cI cJ cZ cQ aT gs14)) hD hS hA [4] rfl
  refine va_calll (va_runS (As := [.ref aT, .int 0, .int 1]) (rest := [.int 0, .ref qV]) ⟨hx, hb, hml, hown, hts⟩ (c_valueOf l dC dI cB cI cJ cZ cQ aT gs14 H.size hgl15 ((hgf16 1 (by decide)).trans ((hgf10 1 (by decide)).trans ((hgf5 1 (by decide)).trans haT_1)))) (va_cwS 3 hts g_c_scan_c_valueOf_33 rfl rfl rfl (by decide +kernel) ⟨Nat.le_of_ble_eq_true rfl, Nat.le_of_ble_eq_true rfl⟩) ⟨zFB, fun U hU hW => zUp hU hW hPc hK hO hDc⟩ rfl rfl hl.1 rfl (lv_room (Nat.le_of_ble_eq_true rfl)) dX10_scan_53 ⟨Nat.le_of_ble_eq_true rfl, Nat.le_of_ble_eq_true rfl⟩) hS (fun q _ h => hFc q h) hFc (fun r18 u t H1 locs ht hvm hw19 hB hz1 hk1 hS => ?_)
  obtain ⟨gs20, hgl21, hgf22, hP1, hD1⟩ := hB
  rw [ht] at hP1
  obtain ⟨hP, hD⟩ := va_join (wr := [(aTk, .inr (10, fsaTk)), (qS, .inl (cI, 601, .inl g17)), (qP, .inl (cI, 601, .inl g11)), (qV, .inl (cJ, 601, .inr (.inl fV)))]) (w1 := [(aT, .inr (9, gs20))]) hP hD [4] [0, 1, 2, 3] rfl rfl (by decide) (by decide) hk1 hFc hP1 hD1
  generalize H1 = H at hP hS ⊢
  have hP : va_P (dC, dI) vwCl [(aTk, .inr (10, fsaTk)), (qS, .inl (cI, 601, .inl g17)), (qP, .inl (cI, 601, .inl g11)), (qV, .inl (cJ, 601, .inr (.inl fV))), (aT, .inr (9, gs20))] H := hP
  have hD : va_D A [(aTk, .inr (10, fsaTk)), (qS, .inl (cI, 601, .inl g17)), (qP, .inl (cI, 601, .inl g11)), (qV, .inl (cJ, 601, .inr (.inl fV))), (aT, .inr (9, gs20))] := hD
  refine z_last hx hb hK hP hD hS 3 2 rfl rfl (show ¬ ((0 : Int32) < 0 ∨ 601 ≤ (0 : Int32).toNatClampNeg) from by decide) dX10_scan_56 (fun H locs g23 hg23 hP hD hS => ?_)
  have hP : va_P (dC, dI) vwCl [(aTk, .inr (10, fsaTk)), (qS, .inl (cI, 601, .inl g17)), (qP, .inl (cI, 601, .inl g11)), (qV, .inl (cJ, 601, .inr (.inl g23))), (aT, .inr (9, gs20))] H := hP
  have hD : va_D A [(aTk, .inr (10, fsaTk)), (qS, .inl (cI, 601, .inl g17)), (qP, .inl (cI, 601, .inl g11)), (qV, .inl (cJ, 601, .inr (.inl g23))), (aT, .inr (9, gs20))] := hD
  refine lv_aload_n hx hb dX10_scan_57 rfl (lv_at hl 3 rfl) ?_
  refine va_get (D := (dC, dI)) (ci := 10) (v := .ref qS) (C := RX10) (T := TX10) (N := 3) hx hb hts in_c_scan_10 hown hK hP 0 rfl rfl 0 (by decide) (hts (.fieldLink RX10 11 "LanternHouse$Tokens" "sorts" "[I") (by decide +kernel)) (fun _ h9 => h9) haTk_0 dX10_scan_58 ?_
  refine lv_iload_n hx hb dX10_scan_61 rfl (lv_at hl 2 rfl) ?_
  refine z_iald hx hb hK hP 1 1 rfl rfl (show ¬ ((0 : Int32) < 0 ∨ 601 ≤ (0 : Int32).toNatClampNeg) from by decide) (v := 1) hg17 dX10_scan_62 ?_
  refine lv_iconst (v := 1) hx hb dX10_scan_63 (by decide) ?_
  refine lv_icmp_eq (tgt := 77) hx hb dX10_scan_64 (by decide) (fun _ => ?_) (fun zc => absurd zc (by decide))
  have hP9 : va_P (dC, dI) vwCl [(aTk, .inr (10, fsaTk)), (aT, .inr (9, gs20)), (qS, .inl (cI, 601, .inl g17))] H := hP.sub [0, 4, 1] rfl
  have hD9 : va_D A [(aTk, .inr (10, fsaTk)), (aT, .inr (9, gs20)), (qS, .inl (cI, 601, .inl g17))] := hD.sub [0, 4, 1] (by decide) rfl
  exact W.vret hx hb hr (fun t ht hW => ⟨⟨(), rfl, trivial, ⟨g17, fsaTk, gs20, hlaTk, (fun j hj => rfl), hgl21, (fun j hj => ((zfs hgf22 (by decide) hj).trans ((zfs hgf16 (by decide) hj).trans ((zfs hgf10 (by decide) hj).trans ((zfs hgf5 (by decide) hj).trans rfl))))), hg17, by rw [ht]; exact hP9, hD9⟩⟩, hS.F ht⟩) hS.2.2 dX10_scan_77

