def zs_c_clear : List Cond := .code yX2_clear cX2_clear 1 none :: (([.fieldLink RX2 51 "LanternHouse$Lectures" "size" "I", .fieldLink RX2 47 "LanternHouse$Lectures" "codeSize" "I"] : List Cond) ++ (wsX20 ++ []))
theorem gd_c_clear : (zs_c_clear).all goodWord = true := by decide +kernel
theorem in_c_clear_2 : ∀ w ∈ wsX20, w ∈ zs_c_clear := fun w h => List.mem_cons_of_mem _ (List.mem_append_right _ (List.mem_append_left _ h))
abbrev ws_c_clear (cB cI cJ cZ cQ : ClassId) (aD : Nat) (fsaD : List Value) : va_W := [(aD, .inr (2, fsaD))]
set_option maxHeartbeats 4000000 in
set_option maxRecDepth 100000 in
theorem c_clear (l : Launch) (dC : Nat → ClassId) (dI : Nat → Nat → Nat) (cB cI cJ cZ cQ : ClassId) (aD : Nat) (fsaD : List Value) (sz : Nat) (hlaD : fsaD.length = 13) : Met l yX2_clear zs_c_clear ({ frames := 0, cells := 0, slots := 0, locals := 0 } : Room) (zPc [.ref aD] (dC, dI) (zTY cB cI cJ cZ cQ) (ws_c_clear cB cI cJ cZ cQ aD fsaD) sz) (va_Qv (fun (_ : Unit) => True) (fun (_ : Unit) (t : State) => ∃ (gsaD : List Value), gsaD.length = 13 ∧ (∀ j : Nat, ¬ j ∈ ([12, 11] : List Nat) → gsaD[j]? = fsaD[j]?) ∧ va_P (dC, dI) vwCl [(aD, .inr (2, gsaD))] t.heap ∧ va_D (va_A (ws_c_clear cB cI cJ cZ cQ aD fsaD) sz) [(aD, .inr (2, gsaD))]) (va_A (ws_c_clear cB cI cJ cZ cQ aD fsaD) sz)) 0 0 (va_A (ws_c_clear cB cI cJ cZ cQ aD fsaD) sz) := by
  refine Met.ofW (cc := cX2_clear) (maxL := 1) (ret := none) (by decide) rfl ?_
  intro p e s m args below meth c s₁ B hml hv
  obtain ⟨rfl, hsz, hP0, hK, hO, hD0⟩ := hv
  have hx := B.exec
  have hb := B.bytes
  have hr := B.returns
  have hts := atoms_spec (ws := zs_c_clear) B.pre
  have hown : s.vm.findClass RX2 = some m.cls := findClass_of_methodNamed B.named
  have hlocks := B.notSynchronized
  subst hsz
  have hD8 := hD0.self (sz := s.heap.size)
  generalize hAe : va_A (ws_c_clear cB cI cJ cZ cQ aD fsaD) s.heap.size = A at hD8 ⊢
  have hA : ∀ q : Nat, s.heap.size ≤ q → A q := fun q h => by rw [← hAe]; exact Or.inr h
  have hS : va_S A s.heap s.heap [] := va_S.rf
  have hP : va_P (dC, dI) vwCl [(aD, .inr (2, fsaD))] s.heap := hP0
  have hD : va_D A [(aD, .inr (2, fsaD))] := hD8
  have hl := lv_entry ([.ref aD]) (n := 1) (Nat.le_of_ble_eq_true rfl)
  rw [lg_entry_eq]
  generalize (lg_sl ([.ref aD]) ++ List.replicate (1 - (lg_sl ([.ref aD])).length) Slot.unset).toArray = ls at hl ⊢
  have hl : lv_has ls 1 [(0, .ref aD)] := hl
  clear hP0 hD8 hD0
  refine zH0 (fun H hP hS => ?_) hP hS
  refine lv_aload_n hx hb dX2_clear_0 rfl (lv_at hl 0 rfl) ?_
  refine lv_iconst (v := 0) hx hb dX2_clear_1 (by decide) ?_
  refine va_put (D := (dC, dI)) (ci := 2) (v := .int 0) (ty := .int) (C := RX2) (T := TX2) (N := 13) hx hb hts in_c_clear_2 tyX2 tyX2_ok nmX2 hown hK hP hD hS 0 rfl rfl 12 (by decide) (hts (.fieldLink RX2 51 "LanternHouse$Lectures" "size" "I") (by decide +kernel)) (fun _ h9 => h9) rfl (by decide +kernel) rfl rfl (by rw [hlaD]; decide) dX2_clear_2 (fun H locs hP hD hS => ?_)
  have hP : va_P (dC, dI) vwCl [(aD, .inr (2, (List.set fsaD 12 (.int 0))))] H := hP
  have hD : va_D A [(aD, .inr (2, (List.set fsaD 12 (.int 0))))] := hD
  refine lv_aload_n hx hb dX2_clear_5 rfl (lv_at hl 0 rfl) ?_
  refine lv_iconst (v := 0) hx hb dX2_clear_6 (by decide) ?_
  refine va_put (D := (dC, dI)) (ci := 2) (v := .int 0) (ty := .int) (C := RX2) (T := TX2) (N := 13) hx hb hts in_c_clear_2 tyX2 tyX2_ok nmX2 hown hK hP hD hS 0 rfl rfl 11 (by decide) (hts (.fieldLink RX2 47 "LanternHouse$Lectures" "codeSize" "I") (by decide +kernel)) (fun _ h9 => h9) rfl (by decide +kernel) rfl rfl (by rw [(zset_len hlaD)]; decide) dX2_clear_7 (fun H locs hP hD hS => ?_)
  have hP : va_P (dC, dI) vwCl [(aD, .inr (2, (List.set (List.set fsaD 12 (.int 0)) 11 (.int 0))))] H := hP
  have hD : va_D A [(aD, .inr (2, (List.set (List.set fsaD 12 (.int 0)) 11 (.int 0))))] := hD
  have hP9 : va_P (dC, dI) vwCl [(aD, .inr (2, (List.set (List.set fsaD 12 (.int 0)) 11 (.int 0))))] H := hP.sub [0] rfl
  have hD9 : va_D A [(aD, .inr (2, (List.set (List.set fsaD 12 (.int 0)) 11 (.int 0))))] := hD.sub [0] (by decide) rfl
  exact W.vret hx hb hr (fun t ht hW => ⟨⟨(), rfl, trivial, ⟨(List.set (List.set fsaD 12 (.int 0)) 11 (.int 0)), (zset_len (zset_len hlaD)), (fun j hj => ((zfr (by decide) hj).trans ((zfr (by decide) hj).trans rfl))), by rw [ht]; exact hP9, hD9⟩⟩, hS.F ht⟩) hS.2.2 dX2_clear_10

def zs_c_rbegin : List Cond := .code yX5_begin cX5_begin 2 none :: (([.fieldLink RX5 63 "LanternHouse$Reader" "text" "LLanternHouse$Lectures;", .fieldLink RX5 19 "LanternHouse$Reader" "at" "I", .fieldLink RX5 29 "LanternHouse$Reader" "fault" "I", .fieldLink RX5 32 "LanternHouse$Reader" "faultPlace" "I", .fieldLink RX5 35 "LanternHouse$Reader" "noted" "I", .fieldLink RX5 38 "LanternHouse$Reader" "notedPlace" "I", .methodLink RX5 67 yX2_clear, .instanceMethod yX2_clear, .selects RX2 yX2_clear yX2_clear, .initialized RX2] : List Cond) ++ (zs_c_clear ++ (wsX50 ++ [])))
theorem gd_c_rbegin : (zs_c_rbegin).all goodWord = true := by decide +kernel
theorem in_c_rbegin_5 : ∀ w ∈ wsX50, w ∈ zs_c_rbegin := fun w h => List.mem_cons_of_mem _ (List.mem_append_right _ (List.mem_append_right _ (List.mem_append_left _ h)))
theorem g_c_rbegin_c_clear_67 : GoodIn zs_c_rbegin (wsV RX5 67 RX2 yX2_clear zs_c_clear) := goodIn_app (goodIn_of _ (by decide +kernel)) (goodIn_sub (fun w h => List.mem_cons_of_mem _ (List.mem_append_right _ (List.mem_append_left _ h))) gd_c_clear)
abbrev ws_c_rbegin (cB cI cJ cZ cQ : ClassId) (aR aD : Nat) (fsaR : List Value) (fsaD : List Value) : va_W := [(aR, .inr (5, fsaR)), (aD, .inr (2, fsaD))]
set_option maxHeartbeats 4000000 in
set_option maxRecDepth 100000 in
theorem c_rbegin (l : Launch) (dC : Nat → ClassId) (dI : Nat → Nat → Nat) (cB cI cJ cZ cQ : ClassId) (aR aD : Nat) (fsaR : List Value) (fsaD : List Value) (sz : Nat) (hlaR : fsaR.length = 11) (hlaD : fsaD.length = 13) : Met l yX5_begin zs_c_rbegin ({ frames := 1, cells := 0, slots := 0, locals := 20 } : Room) (zPc [.ref aR, .ref aD] (dC, dI) (zTY cB cI cJ cZ cQ) (ws_c_rbegin cB cI cJ cZ cQ aR aD fsaR fsaD) sz) (va_Qv (fun (_ : Unit) => True) (fun (_ : Unit) (t : State) => ∃ (gsaR : List Value), ∃ (gsaD : List Value), gsaR.length = 11 ∧ (∀ j : Nat, ¬ j ∈ ([3, 4, 7, 8, 9, 10] : List Nat) → gsaR[j]? = fsaR[j]?) ∧ gsaR[3]? = some (.ref aD) ∧ gsaR[4]? = some (.int 0) ∧ gsaR[7]? = some (.int 0) ∧ gsaR[8]? = some (.int (-1)) ∧ gsaR[9]? = some (.int 0) ∧ gsaR[10]? = some (.int (-1)) ∧ gsaD.length = 13 ∧ (∀ j : Nat, ¬ j ∈ ([12, 11] : List Nat) → gsaD[j]? = fsaD[j]?) ∧ va_P (dC, dI) vwCl [(aR, .inr (5, gsaR)), (aD, .inr (2, gsaD))] t.heap ∧ va_D (va_A (ws_c_rbegin cB cI cJ cZ cQ aR aD fsaR fsaD) sz) [(aR, .inr (5, gsaR)), (aD, .inr (2, gsaD))]) (va_A (ws_c_rbegin cB cI cJ cZ cQ aR aD fsaR fsaD) sz)) 0 0 (va_A (ws_c_rbegin cB cI cJ cZ cQ aR aD fsaR fsaD) sz) := by
  refine Met.ofW (cc := cX5_begin) (maxL := 2) (ret := none) (by decide) rfl ?_
  intro p e s m args below meth c s₁ B hml hv
  obtain ⟨rfl, hsz, hP0, hK, hO, hD0⟩ := hv
  have hx := B.exec
  have hb := B.bytes
  have hr := B.returns
  have hts := atoms_spec (ws := zs_c_rbegin) B.pre
  have hown : s.vm.findClass RX5 = some m.cls := findClass_of_methodNamed B.named
  have hlocks := B.notSynchronized
  subst hsz
  have hD8 := hD0.self (sz := s.heap.size)
  generalize hAe : va_A (ws_c_rbegin cB cI cJ cZ cQ aR aD fsaR fsaD) s.heap.size = A at hD8 ⊢
  have hA : ∀ q : Nat, s.heap.size ≤ q → A q := fun q h => by rw [← hAe]; exact Or.inr h
  have hS : va_S A s.heap s.heap [] := va_S.rf
  have hP : va_P (dC, dI) vwCl [(aR, .inr (5, fsaR)), (aD, .inr (2, fsaD))] s.heap := hP0
  have hD : va_D A [(aR, .inr (5, fsaR)), (aD, .inr (2, fsaD))] := hD8
  have hl := lv_entry ([.ref aR, .ref aD]) (n := 2) (Nat.le_of_ble_eq_true rfl)
  rw [lg_entry_eq]
  generalize (lg_sl ([.ref aR, .ref aD]) ++ List.replicate (2 - (lg_sl ([.ref aR, .ref aD])).length) Slot.unset).toArray = ls at hl ⊢
  have hl : lv_has ls 2 [(0, .ref aR), (1, .ref aD)] := hl
  clear hP0 hD8 hD0
  refine zH0 (fun H hP hS => ?_) hP hS
  refine lv_aload_n hx hb dX5_begin_0 rfl (lv_at hl 0 rfl) ?_
  refine lv_aload_n hx hb dX5_begin_1 rfl (lv_at hl 1 rfl) ?_
  refine va_put (D := (dC, dI)) (ci := 5) (v := .ref aD) (ty := .object "LanternHouse$Lectures") (C := RX5) (T := TX5) (N := 11) hx hb hts in_c_rbegin_5 tyX5 tyX5_ok nmX5 hown hK hP hD hS 0 rfl rfl 3 (by decide) (hts (.fieldLink RX5 63 "LanternHouse$Reader" "text" "LLanternHouse$Lectures;") (by decide +kernel)) (fun _ h9 => h9) rfl (by decide +kernel) rfl rfl (by rw [hlaR]; decide) dX5_begin_2 (fun H locs hP hD hS => ?_)
  have hP : va_P (dC, dI) vwCl [(aR, .inr (5, (List.set fsaR 3 (.ref aD)))), (aD, .inr (2, fsaD))] H := hP
  have hD : va_D A [(aR, .inr (5, (List.set fsaR 3 (.ref aD)))), (aD, .inr (2, fsaD))] := hD
  refine lv_aload_n hx hb dX5_begin_5 rfl (lv_at hl 0 rfl) ?_
  refine va_get (D := (dC, dI)) (ci := 5) (v := .ref aD) (C := RX5) (T := TX5) (N := 11) hx hb hts in_c_rbegin_5 hown hK hP 0 rfl rfl 3 (by decide) (hts (.fieldLink RX5 63 "LanternHouse$Reader" "text" "LLanternHouse$Lectures;") (by decide +kernel)) (fun _ h9 => h9) (zset_eq (by rw [hlaR]; decide)) dX5_begin_6 ?_
  have hPc : va_P (dC, dI) vwCl (ws_c_clear cB cI cJ cZ cQ aD fsaD) H := hP.sub [1] rfl
  have hDc := hD.sub (ws' := (ws_c_clear cB cI cJ cZ cQ aD fsaD)) [1] (by decide) rfl
  have hFc := va_free (wc := (ws_c_clear cB cI cJ cZ cQ aD fsaD)) hD hS hA [1] rfl
  refine va_callv (va_runV (As := []) (rest := []) ⟨hx, hb, hml, hown, hts⟩ (c_clear l dC dI cB cI cJ cZ cQ aD fsaD H.size hlaD) (cwV 0 hts g_c_rbegin_c_clear_67 rfl rfl rfl (by decide +kernel) ⟨Nat.le_of_ble_eq_true rfl, Nat.le_of_ble_eq_true rfl⟩) ⟨zFB, va_recv hK hP (ci := 2) (q0 := 1) rfl rfl, fun U hU hW => zUp hU hW hPc hK hO hDc⟩ rfl rfl hl.1 rfl (lv_room (Nat.le_of_ble_eq_true rfl)) dX5_begin_9 ⟨Nat.le_of_ble_eq_true rfl, Nat.le_of_ble_eq_true rfl⟩) hS (fun q _ h => hFc q h) hFc (fun u t H1 locs ht hvm hw2 hB hz1 hk1 hS => ?_)
  obtain ⟨gs3, hgl4, hgf5, hP1, hD1⟩ := hB
  rw [ht] at hP1
  obtain ⟨hP, hD⟩ := va_join (wr := [(aR, .inr (5, (List.set fsaR 3 (.ref aD))))]) (w1 := [(aD, .inr (2, gs3))]) hP hD [1] [0] rfl rfl (by decide) (by decide) hk1 hFc hP1 hD1
  generalize H1 = H at hP hS ⊢
  have hP : va_P (dC, dI) vwCl [(aR, .inr (5, (List.set fsaR 3 (.ref aD)))), (aD, .inr (2, gs3))] H := hP
  have hD : va_D A [(aR, .inr (5, (List.set fsaR 3 (.ref aD)))), (aD, .inr (2, gs3))] := hD
  refine lv_aload_n hx hb dX5_begin_12 rfl (lv_at hl 0 rfl) ?_
  refine lv_iconst (v := 0) hx hb dX5_begin_13 (by decide) ?_
  refine va_put (D := (dC, dI)) (ci := 5) (v := .int 0) (ty := .int) (C := RX5) (T := TX5) (N := 11) hx hb hts in_c_rbegin_5 tyX5 tyX5_ok nmX5 hown hK hP hD hS 0 rfl rfl 4 (by decide) (hts (.fieldLink RX5 19 "LanternHouse$Reader" "at" "I") (by decide +kernel)) (fun _ h9 => h9) rfl (by decide +kernel) rfl rfl (by rw [(zset_len hlaR)]; decide) dX5_begin_14 (fun H locs hP hD hS => ?_)
  have hP : va_P (dC, dI) vwCl [(aR, .inr (5, (List.set (List.set fsaR 3 (.ref aD)) 4 (.int 0)))), (aD, .inr (2, gs3))] H := hP
  have hD : va_D A [(aR, .inr (5, (List.set (List.set fsaR 3 (.ref aD)) 4 (.int 0)))), (aD, .inr (2, gs3))] := hD
  refine lv_aload_n hx hb dX5_begin_17 rfl (lv_at hl 0 rfl) ?_
  refine lv_iconst (v := 0) hx hb dX5_begin_18 (by decide) ?_
  refine va_put (D := (dC, dI)) (ci := 5) (v := .int 0) (ty := .int) (C := RX5) (T := TX5) (N := 11) hx hb hts in_c_rbegin_5 tyX5 tyX5_ok nmX5 hown hK hP hD hS 0 rfl rfl 7 (by decide) (hts (.fieldLink RX5 29 "LanternHouse$Reader" "fault" "I") (by decide +kernel)) (fun _ h9 => h9) rfl (by decide +kernel) rfl rfl (by rw [(zset_len (zset_len hlaR))]; decide) dX5_begin_19 (fun H locs hP hD hS => ?_)
  have hP : va_P (dC, dI) vwCl [(aR, .inr (5, (List.set (List.set (List.set fsaR 3 (.ref aD)) 4 (.int 0)) 7 (.int 0)))), (aD, .inr (2, gs3))] H := hP
  have hD : va_D A [(aR, .inr (5, (List.set (List.set (List.set fsaR 3 (.ref aD)) 4 (.int 0)) 7 (.int 0)))), (aD, .inr (2, gs3))] := hD
  refine lv_aload_n hx hb dX5_begin_22 rfl (lv_at hl 0 rfl) ?_
  refine lv_iconst (v := (-1)) hx hb dX5_begin_23 (by decide) ?_
  refine va_put (D := (dC, dI)) (ci := 5) (v := .int (-1)) (ty := .int) (C := RX5) (T := TX5) (N := 11) hx hb hts in_c_rbegin_5 tyX5 tyX5_ok nmX5 hown hK hP hD hS 0 rfl rfl 8 (by decide) (hts (.fieldLink RX5 32 "LanternHouse$Reader" "faultPlace" "I") (by decide +kernel)) (fun _ h9 => h9) rfl (by decide +kernel) rfl rfl (by rw [(zset_len (zset_len (zset_len hlaR)))]; decide) dX5_begin_24 (fun H locs hP hD hS => ?_)
  have hP : va_P (dC, dI) vwCl [(aR, .inr (5, (List.set (List.set (List.set (List.set fsaR 3 (.ref aD)) 4 (.int 0)) 7 (.int 0)) 8 (.int (-1))))), (aD, .inr (2, gs3))] H := hP
  have hD : va_D A [(aR, .inr (5, (List.set (List.set (List.set (List.set fsaR 3 (.ref aD)) 4 (.int 0)) 7 (.int 0)) 8 (.int (-1))))), (aD, .inr (2, gs3))] := hD
  refine lv_aload_n hx hb dX5_begin_27 rfl (lv_at hl 0 rfl) ?_
  refine lv_iconst (v := 0) hx hb dX5_begin_28 (by decide) ?_
  refine va_put (D := (dC, dI)) (ci := 5) (v := .int 0) (ty := .int) (C := RX5) (T := TX5) (N := 11) hx hb hts in_c_rbegin_5 tyX5 tyX5_ok nmX5 hown hK hP hD hS 0 rfl rfl 9 (by decide) (hts (.fieldLink RX5 35 "LanternHouse$Reader" "noted" "I") (by decide +kernel)) (fun _ h9 => h9) rfl (by decide +kernel) rfl rfl (by rw [(zset_len (zset_len (zset_len (zset_len hlaR))))]; decide) dX5_begin_29 (fun H locs hP hD hS => ?_)
  have hP : va_P (dC, dI) vwCl [(aR, .inr (5, (List.set (List.set (List.set (List.set (List.set fsaR 3 (.ref aD)) 4 (.int 0)) 7 (.int 0)) 8 (.int (-1))) 9 (.int 0)))), (aD, .inr (2, gs3))] H := hP
  have hD : va_D A [(aR, .inr (5, (List.set (List.set (List.set (List.set (List.set fsaR 3 (.ref aD)) 4 (.int 0)) 7 (.int 0)) 8 (.int (-1))) 9 (.int 0)))), (aD, .inr (2, gs3))] := hD
  refine lv_aload_n hx hb dX5_begin_32 rfl (lv_at hl 0 rfl) ?_
  refine lv_iconst (v := (-1)) hx hb dX5_begin_33 (by decide) ?_
  refine va_put (D := (dC, dI)) (ci := 5) (v := .int (-1)) (ty := .int) (C := RX5) (T := TX5) (N := 11) hx hb hts in_c_rbegin_5 tyX5 tyX5_ok nmX5 hown hK hP hD hS 0 rfl rfl 10 (by decide) (hts (.fieldLink RX5 38 "LanternHouse$Reader" "notedPlace" "I") (by decide +kernel)) (fun _ h9 => h9) rfl (by decide +kernel) rfl rfl (by rw [(zset_len (zset_len (zset_len (zset_len (zset_len hlaR)))))]; decide) dX5_begin_34 (fun H locs hP hD hS => ?_)
  have hP : va_P (dC, dI) vwCl [(aR, .inr (5, (List.set (List.set (List.set (List.set (List.set (List.set fsaR 3 (.ref aD)) 4 (.int 0)) 7 (.int 0)) 8 (.int (-1))) 9 (.int 0)) 10 (.int (-1))))), (aD, .inr (2, gs3))] H := hP
  have hD : va_D A [(aR, .inr (5, (List.set (List.set (List.set (List.set (List.set (List.set fsaR 3 (.ref aD)) 4 (.int 0)) 7 (.int 0)) 8 (.int (-1))) 9 (.int 0)) 10 (.int (-1))))), (aD, .inr (2, gs3))] := hD
  have hP9 : va_P (dC, dI) vwCl [(aR, .inr (5, (List.set (List.set (List.set (List.set (List.set (List.set fsaR 3 (.ref aD)) 4 (.int 0)) 7 (.int 0)) 8 (.int (-1))) 9 (.int 0)) 10 (.int (-1))))), (aD, .inr (2, gs3))] H := hP.sub [0, 1] rfl
  have hD9 : va_D A [(aR, .inr (5, (List.set (List.set (List.set (List.set (List.set (List.set fsaR 3 (.ref aD)) 4 (.int 0)) 7 (.int 0)) 8 (.int (-1))) 9 (.int 0)) 10 (.int (-1))))), (aD, .inr (2, gs3))] := hD.sub [0, 1] (by decide) rfl
  exact W.vret hx hb hr (fun t ht hW => ⟨⟨(), rfl, trivial, ⟨(List.set (List.set (List.set (List.set (List.set (List.set fsaR 3 (.ref aD)) 4 (.int 0)) 7 (.int 0)) 8 (.int (-1))) 9 (.int 0)) 10 (.int (-1))), gs3, (zset_len (zset_len (zset_len (zset_len (zset_len (zset_len hlaR)))))), (fun j hj => ((zfr (by decide) hj).trans ((zfr (by decide) hj).trans ((zfr (by decide) hj).trans ((zfr (by decide) hj).trans ((zfr (by decide) hj).trans ((zfr (by decide) hj).trans rfl))))))), (zset_ne (by decide) (zset_ne (by decide) (zset_ne (by decide) (zset_ne (by decide) (zset_ne (by decide) (zset_eq (by rw [hlaR]; decide))))))), (zset_ne (by decide) (zset_ne (by decide) (zset_ne (by decide) (zset_ne (by decide) (zset_eq (by rw [(zset_len hlaR)]; decide)))))), (zset_ne (by decide) (zset_ne (by decide) (zset_ne (by decide) (zset_eq (by rw [(zset_len (zset_len hlaR))]; decide))))), (zset_ne (by decide) (zset_ne (by decide) (zset_eq (by rw [(zset_len (zset_len (zset_len hlaR)))]; decide)))), (zset_ne (by decide) (zset_eq (by rw [(zset_len (zset_len (zset_len (zset_len hlaR))))]; decide))), (zset_eq (by rw [(zset_len (zset_len (zset_len (zset_len (zset_len hlaR)))))]; decide)), hgl4, (fun j hj => ((zfs hgf5 (by decide) hj).trans rfl)), by rw [ht]; exact hP9, hD9⟩⟩, hS.F ht⟩) hS.2.2 dX5_begin_37

def zs_c_parse : List Cond := .code yX5_parse cX5_parse 4 none :: (([.fieldLink RX5 41 "LanternHouse$Reader" "tokens" "LLanternHouse$Tokens;", .fieldLink RX5 51 "LanternHouse$Tokens" "sorts" "[I", .fieldLink RX5 19 "LanternHouse$Reader" "at" "I", .fieldLink RX5 35 "LanternHouse$Reader" "noted" "I", .fieldLink RX5 29 "LanternHouse$Reader" "fault" "I", .fieldLink RX5 38 "LanternHouse$Reader" "notedPlace" "I", .fieldLink RX5 32 "LanternHouse$Reader" "faultPlace" "I", .methodLink RX5 45 yX5_begin, .instanceMethod yX5_begin, .selects RX5 yX5_begin yX5_begin, .initialized RX5] : List Cond) ++ (zs_c_rbegin ++ (wsX50 ++ (wsX100 ++ []))))
theorem gd_c_parse : (zs_c_parse).all goodWord = true := by decide +kernel
theorem in_c_parse_5 : ∀ w ∈ wsX50, w ∈ zs_c_parse := fun w h => List.mem_cons_of_mem _ (List.mem_append_right _ (List.mem_append_right _ (List.mem_append_left _ h)))
theorem in_c_parse_10 : ∀ w ∈ wsX100, w ∈ zs_c_parse := fun w h => List.mem_cons_of_mem _ (List.mem_append_right _ (List.mem_append_right _ (List.mem_append_right _ (List.mem_append_left _ h))))
theorem g_c_parse_c_rbegin_45 : GoodIn zs_c_parse (wsV RX5 45 RX5 yX5_begin zs_c_rbegin) := goodIn_app (goodIn_of _ (by decide +kernel)) (goodIn_sub (fun w h => List.mem_cons_of_mem _ (List.mem_append_right _ (List.mem_append_left _ h))) gd_c_rbegin)
abbrev ws_c_parse (cB cI cJ cZ cQ : ClassId) (aR aTk qS aD : Nat) (fS : Nat → Int32) (fsaR : List Value) (fsaTk : List Value) (fsaD : List Value) : va_W := [(aR, .inr (5, fsaR)), (aTk, .inr (10, fsaTk)), (qS, .inl (cI, 601, .inl fS)), (aD, .inr (2, fsaD))]
set_option maxHeartbeats 4000000 in
set_option maxRecDepth 100000 in
theorem c_parse (l : Launch) (dC : Nat → ClassId) (dI : Nat → Nat → Nat) (cB cI cJ cZ cQ : ClassId) (aR aTk qS aD : Nat) (fS : Nat → Int32) (fsaR : List Value) (fsaTk : List Value) (fsaD : List Value) (sz : Nat) (hS0 : fS (0 : Int32).toNatClampNeg = 1) (hlaR : fsaR.length = 11) (haR_0 : fsaR[0]? = some (.ref aTk)) (hlaTk : fsaTk.length = 3) (haTk_0 : fsaTk[0]? = some (.ref qS)) (hlaD : fsaD.length = 13) : Met l yX5_parse zs_c_parse ({ frames := 2, cells := 0, slots := 0, locals := 41 } : Room) (zPc [.ref aR, .ref aD] (dC, dI) (zTY cB cI cJ cZ cQ) (ws_c_parse cB cI cJ cZ cQ aR aTk qS aD fS fsaR fsaTk fsaD) sz) (va_Qv (fun (_ : Unit) => True) (fun (_ : Unit) (t : State) => ∃ (gsaR : List Value), gsaR.length = 11 ∧ (∀ j : Nat, ¬ j ∈ ([3, 4, 7, 8, 9, 10] : List Nat) → gsaR[j]? = fsaR[j]?) ∧ gsaR[7]? = some (.int 0) ∧ va_P (dC, dI) vwCl [(aR, .inr (5, gsaR))] t.heap ∧ va_D (va_A (ws_c_parse cB cI cJ cZ cQ aR aTk qS aD fS fsaR fsaTk fsaD) sz) [(aR, .inr (5, gsaR))]) (va_A (ws_c_parse cB cI cJ cZ cQ aR aTk qS aD fS fsaR fsaTk fsaD) sz)) 0 0 (va_A (ws_c_parse cB cI cJ cZ cQ aR aTk qS aD fS fsaR fsaTk fsaD) sz) := by
  refine Met.ofW (cc := cX5_parse) (maxL := 4) (ret := none) (by decide) rfl ?_
  intro p e s m args below meth c s₁ B hml hv
  obtain ⟨rfl, hsz, hP0, hK, hO, hD0⟩ := hv
  have hx := B.exec
  have hb := B.bytes
  have hr := B.returns
  have hts := atoms_spec (ws := zs_c_parse) B.pre
  have hown : s.vm.findClass RX5 = some m.cls := findClass_of_methodNamed B.named
  have hlocks := B.notSynchronized
  subst hsz
  have hD8 := hD0.self (sz := s.heap.size)
  generalize hAe : va_A (ws_c_parse cB cI cJ cZ cQ aR aTk qS aD fS fsaR fsaTk fsaD) s.heap.size = A at hD8 ⊢
  have hA : ∀ q : Nat, s.heap.size ≤ q → A q := fun q h => by rw [← hAe]; exact Or.inr h
  have hS : va_S A s.heap s.heap [] := va_S.rf
  have hP : va_P (dC, dI) vwCl [(aR, .inr (5, fsaR)), (aTk, .inr (10, fsaTk)), (qS, .inl (cI, 601, .inl fS)), (aD, .inr (2, fsaD))] s.heap := hP0
  have hD : va_D A [(aR, .inr (5, fsaR)), (aTk, .inr (10, fsaTk)), (qS, .inl (cI, 601, .inl fS)), (aD, .inr (2, fsaD))] := hD8
  have hl := lv_entry ([.ref aR, .ref aD]) (n := 4) (Nat.le_of_ble_eq_true rfl)
  rw [lg_entry_eq]
  generalize (lg_sl ([.ref aR, .ref aD]) ++ List.replicate (4 - (lg_sl ([.ref aR, .ref aD])).length) Slot.unset).toArray = ls at hl ⊢
  have hl : lv_has ls 4 [(0, .ref aR), (1, .ref aD)] := hl
  clear hP0 hD8 hD0
  refine zH0 (fun H hP hS => ?_) hP hS
  refine lv_aload_n hx hb dX5_parse_0 rfl (lv_at hl 0 rfl) ?_
  refine lv_aload_n hx hb dX5_parse_1 rfl (lv_at hl 1 rfl) ?_
  have hPc : va_P (dC, dI) vwCl (ws_c_rbegin cB cI cJ cZ cQ aR aD fsaR fsaD) H := hP.sub [0, 3] rfl
  have hDc := hD.sub (ws' := (ws_c_rbegin cB cI cJ cZ cQ aR aD fsaR fsaD)) [0, 3] (by decide) rfl
  have hFc := va_free (wc := (ws_c_rbegin cB cI cJ cZ cQ aR aD fsaR fsaD)) hD hS hA [0, 3] rfl
  refine va_callv (va_runV (As := [.ref aD]) (rest := []) ⟨hx, hb, hml, hown, hts⟩ (c_rbegin l dC dI cB cI cJ cZ cQ aR aD fsaR fsaD H.size hlaR hlaD) (cwV 1 hts g_c_parse_c_rbegin_45 rfl rfl rfl (by decide +kernel) ⟨Nat.le_of_ble_eq_true rfl, Nat.le_of_ble_eq_true rfl⟩) ⟨zFB, va_recv hK hP (ci := 5) (q0 := 0) rfl rfl, fun U hU hW => zUp hU hW hPc hK hO hDc⟩ rfl rfl hl.1 rfl (lv_room (Nat.le_of_ble_eq_true rfl)) dX5_parse_2 ⟨Nat.le_of_ble_eq_true rfl, Nat.le_of_ble_eq_true rfl⟩) hS (fun q _ h => hFc q h) hFc (fun u t H1 locs ht hvm hw2 hB hz1 hk1 hS => ?_)
  obtain ⟨gs3, gs4, hgl5, hgf6, hgk7, hgk8, hgk9, hgk10, hgk11, hgk12, hgl13, hgf14, hP1, hD1⟩ := hB
  rw [ht] at hP1
  obtain ⟨hP, hD⟩ := va_join (wr := [(aTk, .inr (10, fsaTk)), (qS, .inl (cI, 601, .inl fS))]) (w1 := [(aR, .inr (5, gs3)), (aD, .inr (2, gs4))]) hP hD [0, 3] [1, 2] rfl rfl (by decide) (by decide) hk1 hFc hP1 hD1
  generalize H1 = H at hP hS ⊢
  have hP : va_P (dC, dI) vwCl [(aTk, .inr (10, fsaTk)), (qS, .inl (cI, 601, .inl fS)), (aR, .inr (5, gs3)), (aD, .inr (2, gs4))] H := hP
  have hD : va_D A [(aTk, .inr (10, fsaTk)), (qS, .inl (cI, 601, .inl fS)), (aR, .inr (5, gs3)), (aD, .inr (2, gs4))] := hD
  refine lv_iconst (v := 1) hx hb dX5_parse_5 (by decide) ?_
  refine lv_istore_n (lv' := [(2, .int 1), (0, .ref aR), (1, .ref aD)]) hx hb dX5_parse_6 rfl hl (by decide) rfl (fun ls hl => ?_)
  refine lv_iconst (v := 0) hx hb dX5_parse_7 (by decide) ?_
  refine lv_istore_n (lv' := [(3, .int 0), (2, .int 1), (0, .ref aR), (1, .ref aD)]) hx hb dX5_parse_8 rfl hl (by decide) rfl (fun ls hl => ?_)
  refine lv_iload_n hx hb dX5_parse_9 rfl (lv_at hl 0 rfl) ?_
  refine lv_bipush (v := 6) hx hb dX5_parse_10 (by decide) ?_
  refine lv_icmp_gt (tgt := 61) hx hb dX5_parse_12 (by decide) (fun zc => absurd zc (by decide)) (fun _ => ?_)
  refine lv_iload_n hx hb dX5_parse_15 rfl (lv_at hl 1 rfl) ?_
  refine lv_if_eq (tgt := 61) hx hb dX5_parse_16 (by decide) (fun zc => absurd zc (by decide)) (fun _ => ?_)
  refine lv_aload_n hx hb dX5_parse_19 rfl (lv_at hl 2 rfl) ?_
  refine va_get (D := (dC, dI)) (ci := 5) (v := .ref aTk) (C := RX5) (T := TX5) (N := 11) hx hb hts in_c_parse_5 hown hK hP 2 rfl rfl 0 (by decide) (hts (.fieldLink RX5 41 "LanternHouse$Reader" "tokens" "LLanternHouse$Tokens;") (by decide +kernel)) (fun _ h9 => h9) ((hgf6 0 (by decide)).trans haR_0) dX5_parse_20 ?_
  refine va_get (D := (dC, dI)) (ci := 10) (v := .ref qS) (C := RX10) (T := TX10) (N := 3) hx hb hts in_c_parse_10 hown hK hP 0 rfl rfl 0 (by decide) (hts (.fieldLink RX5 51 "LanternHouse$Tokens" "sorts" "[I") (by decide +kernel)) (fun _ h9 => h9) haTk_0 dX5_parse_23 ?_
  refine lv_aload_n hx hb dX5_parse_26 rfl (lv_at hl 2 rfl) ?_
  refine va_get (D := (dC, dI)) (ci := 5) (v := .int 0) (C := RX5) (T := TX5) (N := 11) hx hb hts in_c_parse_5 hown hK hP 2 rfl rfl 4 (by decide) (hts (.fieldLink RX5 19 "LanternHouse$Reader" "at" "I") (by decide +kernel)) (fun _ h9 => h9) hgk8 dX5_parse_27 ?_
  refine z_iald hx hb hK hP 1 1 rfl rfl (show ¬ ((0 : Int32) < 0 ∨ 601 ≤ (0 : Int32).toNatClampNeg) from by decide) (v := 1) hS0 dX5_parse_30 ?_
  refine lv_iconst (v := 5) hx hb dX5_parse_31 (by decide) ?_
  refine lv_icmp_ne (tgt := 61) hx hb dX5_parse_32 (by decide) (fun _ => ?_) (fun zc => absurd zc (by decide))
  refine lv_iload_n hx hb dX5_parse_61 rfl (lv_at hl 1 rfl) ?_
  refine lv_if_eq (tgt := 87) hx hb dX5_parse_62 (by decide) (fun zc => absurd zc (by decide)) (fun _ => ?_)
  refine lv_aload_n hx hb dX5_parse_65 rfl (lv_at hl 2 rfl) ?_
  refine va_get (D := (dC, dI)) (ci := 5) (v := .ref aTk) (C := RX5) (T := TX5) (N := 11) hx hb hts in_c_parse_5 hown hK hP 2 rfl rfl 0 (by decide) (hts (.fieldLink RX5 41 "LanternHouse$Reader" "tokens" "LLanternHouse$Tokens;") (by decide +kernel)) (fun _ h9 => h9) ((hgf6 0 (by decide)).trans haR_0) dX5_parse_66 ?_
  refine va_get (D := (dC, dI)) (ci := 10) (v := .ref qS) (C := RX10) (T := TX10) (N := 3) hx hb hts in_c_parse_10 hown hK hP 0 rfl rfl 0 (by decide) (hts (.fieldLink RX5 51 "LanternHouse$Tokens" "sorts" "[I") (by decide +kernel)) (fun _ h9 => h9) haTk_0 dX5_parse_69 ?_
  refine lv_aload_n hx hb dX5_parse_72 rfl (lv_at hl 2 rfl) ?_
  refine va_get (D := (dC, dI)) (ci := 5) (v := .int 0) (C := RX5) (T := TX5) (N := 11) hx hb hts in_c_parse_5 hown hK hP 2 rfl rfl 4 (by decide) (hts (.fieldLink RX5 19 "LanternHouse$Reader" "at" "I") (by decide +kernel)) (fun _ h9 => h9) hgk8 dX5_parse_73 ?_
  refine z_iald hx hb hK hP 1 1 rfl rfl (show ¬ ((0 : Int32) < 0 ∨ 601 ≤ (0 : Int32).toNatClampNeg) from by decide) (v := 1) hS0 dX5_parse_76 ?_
  refine lv_iconst (v := 1) hx hb dX5_parse_77 (by decide) ?_
  refine lv_icmp_eq (tgt := 87) hx hb dX5_parse_78 (by decide) (fun _ => ?_) (fun zc => absurd zc (by decide))
  refine lv_iload_n hx hb dX5_parse_87 rfl (lv_at hl 1 rfl) ?_
  refine lv_if_eq (tgt := 107) hx hb dX5_parse_88 (by decide) (fun zc => absurd zc (by decide)) (fun _ => ?_)
  refine lv_aload_n hx hb dX5_parse_91 rfl (lv_at hl 2 rfl) ?_
  refine lv_aload_n hx hb dX5_parse_92 rfl (lv_at hl 2 rfl) ?_
  refine va_get (D := (dC, dI)) (ci := 5) (v := .int 0) (C := RX5) (T := TX5) (N := 11) hx hb hts in_c_parse_5 hown hK hP 2 rfl rfl 9 (by decide) (hts (.fieldLink RX5 35 "LanternHouse$Reader" "noted" "I") (by decide +kernel)) (fun _ h9 => h9) hgk11 dX5_parse_93 ?_
  refine va_put (D := (dC, dI)) (ci := 5) (v := .int 0) (ty := .int) (C := RX5) (T := TX5) (N := 11) hx hb hts in_c_parse_5 tyX5 tyX5_ok nmX5 hown hK hP hD hS 2 rfl rfl 7 (by decide) (hts (.fieldLink RX5 29 "LanternHouse$Reader" "fault" "I") (by decide +kernel)) (fun _ h9 => h9) rfl (by decide +kernel) rfl rfl (by rw [hgl5]; decide) dX5_parse_96 (fun H locs hP hD hS => ?_)
  have hP : va_P (dC, dI) vwCl [(aTk, .inr (10, fsaTk)), (qS, .inl (cI, 601, .inl fS)), (aR, .inr (5, (List.set gs3 7 (.int 0)))), (aD, .inr (2, gs4))] H := hP
  have hD : va_D A [(aTk, .inr (10, fsaTk)), (qS, .inl (cI, 601, .inl fS)), (aR, .inr (5, (List.set gs3 7 (.int 0)))), (aD, .inr (2, gs4))] := hD
  refine lv_aload_n hx hb dX5_parse_99 rfl (lv_at hl 2 rfl) ?_
  refine lv_aload_n hx hb dX5_parse_100 rfl (lv_at hl 2 rfl) ?_
  refine va_get (D := (dC, dI)) (ci := 5) (v := .int (-1)) (C := RX5) (T := TX5) (N := 11) hx hb hts in_c_parse_5 hown hK hP 2 rfl rfl 10 (by decide) (hts (.fieldLink RX5 38 "LanternHouse$Reader" "notedPlace" "I") (by decide +kernel)) (fun _ h9 => h9) (zset_ne (by decide) hgk12) dX5_parse_101 ?_
  refine va_put (D := (dC, dI)) (ci := 5) (v := .int (-1)) (ty := .int) (C := RX5) (T := TX5) (N := 11) hx hb hts in_c_parse_5 tyX5 tyX5_ok nmX5 hown hK hP hD hS 2 rfl rfl 8 (by decide) (hts (.fieldLink RX5 32 "LanternHouse$Reader" "faultPlace" "I") (by decide +kernel)) (fun _ h9 => h9) rfl (by decide +kernel) rfl rfl (by rw [(zset_len hgl5)]; decide) dX5_parse_104 (fun H locs hP hD hS => ?_)
  have hP : va_P (dC, dI) vwCl [(aTk, .inr (10, fsaTk)), (qS, .inl (cI, 601, .inl fS)), (aR, .inr (5, (List.set (List.set gs3 7 (.int 0)) 8 (.int (-1))))), (aD, .inr (2, gs4))] H := hP
  have hD : va_D A [(aTk, .inr (10, fsaTk)), (qS, .inl (cI, 601, .inl fS)), (aR, .inr (5, (List.set (List.set gs3 7 (.int 0)) 8 (.int (-1))))), (aD, .inr (2, gs4))] := hD
  have hP9 : va_P (dC, dI) vwCl [(aR, .inr (5, (List.set (List.set gs3 7 (.int 0)) 8 (.int (-1)))))] H := hP.sub [2] rfl
  have hD9 : va_D A [(aR, .inr (5, (List.set (List.set gs3 7 (.int 0)) 8 (.int (-1)))))] := hD.sub [2] (by decide) rfl
  exact W.vret hx hb hr (fun t ht hW => ⟨⟨(), rfl, trivial, ⟨(List.set (List.set gs3 7 (.int 0)) 8 (.int (-1))), (zset_len (zset_len hgl5)), (fun j hj => ((zfr (by decide) hj).trans ((zfr (by decide) hj).trans ((zfs hgf6 (by decide) hj).trans rfl)))), (zset_ne (by decide) (zset_eq (by rw [hgl5]; decide))), by rw [ht]; exact hP9, hD9⟩⟩, hS.F ht⟩) hS.2.2 dX5_parse_107

