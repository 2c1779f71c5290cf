def zs_n_Keeper : List Cond := .code yX1_init cX1_init 5 none :: (([.methodLink RX1 5 objectInit, .instanceMethod objectInit, .code objectInit ⟨#[0xb1]⟩ 1 none, .classLink RX1 13 "[[I", .arrayClass .int, .fieldLink RX1 15 "LanternHouse$Keeper" "arrivals" "[[I", .fieldLink RX1 20 "LanternHouse$Keeper" "broken" "[I", .fieldLink RX1 26 "LanternHouse$Keeper" "freeAt" "[I", .fieldLink RX1 29 "LanternHouse$Keeper" "cleaningHours" "I", .fieldLink RX1 33 "LanternHouse$Keeper" "shows" "LLanternHouse$Shows;", .fieldLink RX1 37 "LanternHouse$Keeper" "stock" "LLanternHouse$Stock;", .fieldLink RX1 41 "LanternHouse$Keeper" "facts" "LLanternHouse$Facts;", .fieldLink RX1 45 "LanternHouse$Keeper" "rails" "LLanternHouse$Rails;"] : List Cond) ++ (wsX10 ++ []))
theorem gd_n_Keeper : (zs_n_Keeper).all goodWord = true := by decide +kernel
theorem in_n_Keeper_1 : ∀ w ∈ wsX10, w ∈ zs_n_Keeper := fun w h => List.mem_cons_of_mem _ (List.mem_append_right _ (List.mem_append_left _ h))
abbrev ws_n_Keeper (cB cI cJ cZ cQ : ClassId) (a0 aSh aS aF aRa : Nat) : va_W := [(a0, .inr (1, [.null, .null, .null, .null, .null, .null, .null, .int 0]))]
set_option maxHeartbeats 4000000 in
set_option maxRecDepth 100000 in
theorem n_Keeper (l : Launch) (dC : Nat → ClassId) (dI : Nat → Nat → Nat) (cB cI cJ cZ cQ : ClassId) (a0 aSh aS aF aRa : Nat) (sz : Nat) : Met l yX1_init zs_n_Keeper ({ frames := 1, cells := 12, slots := 91, locals := 12 } : Room) (zPc [.ref a0, .ref aSh, .ref aS, .ref aF, .ref aRa] (dC, dI) (zTY cB cI cJ cZ cQ) (ws_n_Keeper cB cI cJ cZ cQ a0 aSh aS aF aRa) sz) (va_Qv (fun (_ : Unit) => True) (fun (_ : Unit) (t : State) => ∃ (efreeAt : Nat), ∃ (eA : Nat), ∃ (e8 : Nat), ∃ (fQ : Nat → Option Nat), ∃ (gsa0 : List Value), gsa0.length = 8 ∧ gsa0[0]? = some (.ref aSh) ∧ gsa0[2]? = some (.ref aF) ∧ gsa0[3]? = some (.ref aRa) ∧ gsa0[4]? = some (.ref eA) ∧ gsa0[6]? = some (.ref efreeAt) ∧ fQ (8 : Int32).toNatClampNeg = (some e8) ∧ va_P (dC, dI) vwCl [(a0, .inr (1, gsa0)), (efreeAt, .inl (cI, 20, .inl (fun _ => 0))), (eA, .inl (cQ, 9, .inr (.inr (.inr (.inr fQ))))), (e8, .inl (cI, 6, .inl (fun _ => 0)))] t.heap ∧ va_D (va_A (ws_n_Keeper cB cI cJ cZ cQ a0 aSh aS aF aRa) sz) [(a0, .inr (1, gsa0)), (efreeAt, .inl (cI, 20, .inl (fun _ => 0))), (eA, .inl (cQ, 9, .inr (.inr (.inr (.inr fQ))))), (e8, .inl (cI, 6, .inl (fun _ => 0)))]) (va_A (ws_n_Keeper cB cI cJ cZ cQ a0 aSh aS aF aRa) sz)) 12 91 (va_A (ws_n_Keeper cB cI cJ cZ cQ a0 aSh aS aF aRa) sz) := by
  refine Met.ofW (cc := cX1_init) (maxL := 5) (ret := none) (by decide) rfl ?_
  intro p e s m args below meth c s₁ B hml hv
  obtain ⟨rfl, hsz, hP0, hK, hO, hD0⟩ := hv
  have hx := B.exec
  have hb := B.bytes
  have hr := B.returns
  have hts := atoms_spec (ws := zs_n_Keeper) B.pre
  have hown : s.vm.findClass RX1 = some m.cls := findClass_of_methodNamed B.named
  have hlocks := B.notSynchronized
  have hin : meth.name = "<init>" := (name_of_methodNamed B.named B.method).1
  subst hsz
  have hD8 := hD0.self (sz := s.heap.size)
  generalize hAe : va_A (ws_n_Keeper cB cI cJ cZ cQ a0 aSh aS aF aRa) s.heap.size = A at hD8 ⊢
  have hA : ∀ q : Nat, s.heap.size ≤ q → A q := fun q h => by rw [← hAe]; exact Or.inr h
  have hS : va_S A s.heap s.heap [] := va_S.rf
  have hP : va_P (dC, dI) vwCl [(a0, .inr (1, [.null, .null, .null, .null, .null, .null, .null, .int 0]))] s.heap := hP0
  have hD : va_D A [(a0, .inr (1, [.null, .null, .null, .null, .null, .null, .null, .int 0]))] := hD8
  have hl := lv_entry ([.ref a0, .ref aSh, .ref aS, .ref aF, .ref aRa]) (n := 5) (Nat.le_of_ble_eq_true rfl)
  rw [lg_entry_eq]
  generalize (lg_sl ([.ref a0, .ref aSh, .ref aS, .ref aF, .ref aRa]) ++ List.replicate (5 - (lg_sl ([.ref a0, .ref aSh, .ref aS, .ref aF, .ref aRa])).length) Slot.unset).toArray = ls at hl ⊢
  have hl : lv_has ls 5 [(0, .ref a0), (1, .ref aSh), (2, .ref aS), (3, .ref aF), (4, .ref aRa)] := hl
  clear hP0 hD8 hD0
  refine zH0 (fun H hP hS => ?_) hP hS
  refine lv_aload_n hx hb dX1_init_0 rfl (lv_at hl 0 rfl) ?_
  refine W.objInit hx hb hown (hts (.methodLink RX1 5 objectInit) (by decide +kernel)) (hts (.instanceMethod objectInit) (by decide +kernel)) (hts (.code objectInit ⟨#[0xb1]⟩ 1 none) (by decide +kernel)) rfl (by rw [hml]; exact hl.1) rfl dX1_init_1 (Nat.le_of_ble_eq_true rfl) (Nat.le_of_ble_eq_true rfl) ?_
  refine W.eq (g2 := F0 m 4 ls []) rfl ?_
  refine lv_aload_n hx hb dX1_init_4 rfl (lv_at hl 0 rfl) ?_
  refine lv_bipush (v := 9) hx hb dX1_init_5 (by decide) ?_
  refine lv_bipush (v := 6) hx hb dX1_init_7 (by decide) ?_
  refine va_mna (X := [(a0, .inr (1, [.null, .null, .null, .null, .null, .null, .null, .int 0]))]) (L := []) (f := fun _ => .inr (0, [])) (cy := cI) (ty := .int) (n := 9) (k := 6) (z := (6, .inl (fun _ => 0))) (N' := 9) (K' := 6) hx hb hown (by rw [zs_II]; exact (hts (.classLink RX1 13 "[[I") (by decide +kernel))) (zAO_use hO) (hts (.arrayClass .int) (by decide +kernel)) (hK.2 1 _ rfl).2 hK (by simpa [va_pl] using hP) (by simpa [va_pl] using hD) hS hA (by decide) (by decide) (by decide) (by decide) (by decide) (by decide) (by decide) (by decide) (by decide) (Nat.le_of_ble_eq_true rfl) (Nat.le_of_ble_eq_true rfl) (fun _ => rfl) dX1_init_9 (fun q1 r2 cA9 H hri9 hrL9 hK9 hP hD hS => ?_)
  have ecA9 : cA9 = cQ := zra_Q s _ _ (hK9.2 5 _ rfl).2 (hK.2 4 _ rfl).2
  rw [z_pl9, ecA9] at hP hD
  have hP : va_P (dC, dI) vwCl [(a0, .inr (1, [.null, .null, .null, .null, .null, .null, .null, .int 0])), (q1, .inl (cQ, 9, .inr (.inr (.inr (.inr (fun i => if i < 9 then some (r2 i) else none)))))), ((r2 8), .inl (cI, 6, .inl (fun _ => 0)))] H := hP.sub [0, 1, 10] rfl
  have hD : va_D A [(a0, .inr (1, [.null, .null, .null, .null, .null, .null, .null, .int 0])), (q1, .inl (cQ, 9, .inr (.inr (.inr (.inr (fun i => if i < 9 then some (r2 i) else none)))))), ((r2 8), .inl (cI, 6, .inl (fun _ => 0)))] := hD.sub [0, 1, 10] (by decide) rfl
  refine W.widen (k := 10) (n := 63) (Nat.le_of_ble_eq_true rfl) (Nat.le_of_ble_eq_true rfl) ?_
  refine va_putF (D := (dC, dI)) (ci := 1) (v := .ref q1) (ty := .array (.array .int)) (C := RX1) (T := TX1) (N := 8) hx hb hts in_n_Keeper_1 tyX1 tyX1_ok nmX1 hown hK hP hD hS 0 rfl rfl 4 (by decide) (hts (.fieldLink RX1 15 "LanternHouse$Keeper" "arrivals" "[[I") (by decide +kernel)) (fun _ h9 => h9) rfl hin rfl (by decide +kernel) rfl rfl (Nat.le_of_ble_eq_true rfl) dX1_init_13 (fun H locs hP hD hS => ?_)
  have hP : va_P (dC, dI) vwCl [(a0, .inr (1, [.null, .null, .null, .null, .ref q1, .null, .null, .int 0])), (q1, .inl (cQ, 9, .inr (.inr (.inr (.inr (fun i => if i < 9 then some (r2 i) else none)))))), ((r2 8), .inl (cI, 6, .inl (fun _ => 0)))] H := hP
  have hD : va_D A [(a0, .inr (1, [.null, .null, .null, .null, .ref q1, .null, .null, .int 0])), (q1, .inl (cQ, 9, .inr (.inr (.inr (.inr (fun i => if i < 9 then some (r2 i) else none)))))), ((r2 8), .inl (cI, 6, .inl (fun _ => 0)))] := hD
  refine lv_aload_n hx hb dX1_init_16 rfl (lv_at hl 0 rfl) ?_
  refine lv_bipush (v := 8) hx hb dX1_init_17 (by decide) ?_
  refine z_newa (atype := .int) (t0 := 1) (N' := 8) (a0 := (8, .inl (fun _ => 0))) (ty := .int) hx hb (hts (.arrayClass .int) (by decide +kernel)) rfl hK rfl zra_I hP hD hS hA (fun _ => rfl) (by decide) (by decide) (by decide) (Nat.le_of_ble_eq_true rfl) (Nat.le_of_ble_eq_true rfl) dX1_init_19 (fun q3 H hP hD hS => ?_)
  have hP : va_P (dC, dI) vwCl [(a0, .inr (1, [.null, .null, .null, .null, .ref q1, .null, .null, .int 0])), (q1, .inl (cQ, 9, .inr (.inr (.inr (.inr (fun i => if i < 9 then some (r2 i) else none)))))), ((r2 8), .inl (cI, 6, .inl (fun _ => 0))), (q3, .inl (cI, 8, .inl (fun _ => 0)))] H := hP
  have hD : va_D A [(a0, .inr (1, [.null, .null, .null, .null, .ref q1, .null, .null, .int 0])), (q1, .inl (cQ, 9, .inr (.inr (.inr (.inr (fun i => if i < 9 then some (r2 i) else none)))))), ((r2 8), .inl (cI, 6, .inl (fun _ => 0))), (q3, .inl (cI, 8, .inl (fun _ => 0)))] := hD
  refine W.widen (k := 11) (n := 71) (Nat.le_of_ble_eq_true rfl) (Nat.le_of_ble_eq_true rfl) ?_
  refine va_putF (D := (dC, dI)) (ci := 1) (v := .ref q3) (ty := .array .int) (C := RX1) (T := TX1) (N := 8) hx hb hts in_n_Keeper_1 tyX1 tyX1_ok nmX1 hown hK hP hD hS 0 rfl rfl 5 (by decide) (hts (.fieldLink RX1 20 "LanternHouse$Keeper" "broken" "[I") (by decide +kernel)) (fun _ h9 => h9) rfl hin rfl (by decide +kernel) rfl rfl (Nat.le_of_ble_eq_true rfl) dX1_init_21 (fun H locs hP hD hS => ?_)
  have hP : va_P (dC, dI) vwCl [(a0, .inr (1, [.null, .null, .null, .null, .ref q1, .ref q3, .null, .int 0])), (q1, .inl (cQ, 9, .inr (.inr (.inr (.inr (fun i => if i < 9 then some (r2 i) else none)))))), ((r2 8), .inl (cI, 6, .inl (fun _ => 0)))] H := hP.sub [0, 1, 2] rfl
  have hD : va_D A [(a0, .inr (1, [.null, .null, .null, .null, .ref q1, .ref q3, .null, .int 0])), (q1, .inl (cQ, 9, .inr (.inr (.inr (.inr (fun i => if i < 9 then some (r2 i) else none)))))), ((r2 8), .inl (cI, 6, .inl (fun _ => 0)))] := hD.sub [0, 1, 2] (by decide) rfl
  refine lv_aload_n hx hb dX1_init_24 rfl (lv_at hl 0 rfl) ?_
  refine lv_bipush (v := 20) hx hb dX1_init_25 (by decide) ?_
  refine z_newa (atype := .int) (t0 := 1) (N' := 20) (a0 := (20, .inl (fun _ => 0))) (ty := .int) hx hb (hts (.arrayClass .int) (by decide +kernel)) rfl hK rfl zra_I hP hD hS hA (fun _ => rfl) (by decide) (by decide) (by decide) (Nat.le_of_ble_eq_true rfl) (Nat.le_of_ble_eq_true rfl) dX1_init_27 (fun q4 H hP hD hS => ?_)
  have hP : va_P (dC, dI) vwCl [(a0, .inr (1, [.null, .null, .null, .null, .ref q1, .ref q3, .null, .int 0])), (q1, .inl (cQ, 9, .inr (.inr (.inr (.inr (fun i => if i < 9 then some (r2 i) else none)))))), ((r2 8), .inl (cI, 6, .inl (fun _ => 0))), (q4, .inl (cI, 20, .inl (fun _ => 0)))] H := hP
  have hD : va_D A [(a0, .inr (1, [.null, .null, .null, .null, .ref q1, .ref q3, .null, .int 0])), (q1, .inl (cQ, 9, .inr (.inr (.inr (.inr (fun i => if i < 9 then some (r2 i) else none)))))), ((r2 8), .inl (cI, 6, .inl (fun _ => 0))), (q4, .inl (cI, 20, .inl (fun _ => 0)))] := hD
  refine W.widen (k := 12) (n := 91) (Nat.le_of_ble_eq_true rfl) (Nat.le_of_ble_eq_true rfl) ?_
  refine va_putF (D := (dC, dI)) (ci := 1) (v := .ref q4) (ty := .array .int) (C := RX1) (T := TX1) (N := 8) hx hb hts in_n_Keeper_1 tyX1 tyX1_ok nmX1 hown hK hP hD hS 0 rfl rfl 6 (by decide) (hts (.fieldLink RX1 26 "LanternHouse$Keeper" "freeAt" "[I") (by decide +kernel)) (fun _ h9 => h9) rfl hin rfl (by decide +kernel) rfl rfl (Nat.le_of_ble_eq_true rfl) dX1_init_29 (fun H locs hP hD hS => ?_)
  have hP : va_P (dC, dI) vwCl [(a0, .inr (1, [.null, .null, .null, .null, .ref q1, .ref q3, .ref q4, .int 0])), (q1, .inl (cQ, 9, .inr (.inr (.inr (.inr (fun i => if i < 9 then some (r2 i) else none)))))), ((r2 8), .inl (cI, 6, .inl (fun _ => 0))), (q4, .inl (cI, 20, .inl (fun _ => 0)))] H := hP
  have hD : va_D A [(a0, .inr (1, [.null, .null, .null, .null, .ref q1, .ref q3, .ref q4, .int 0])), (q1, .inl (cQ, 9, .inr (.inr (.inr (.inr (fun i => if i < 9 then some (r2 i) else none)))))), ((r2 8), .inl (cI, 6, .inl (fun _ => 0))), (q4, .inl (cI, 20, .inl (fun _ => 0)))] := hD
  refine lv_aload_n hx hb dX1_init_32 rfl (lv_at hl 0 rfl) ?_
  refine lv_iconst (v := 0) hx hb dX1_init_33 (by decide) ?_
  refine va_put (D := (dC, dI)) (ci := 1) (v := .int 0) (ty := .int) (C := RX1) (T := TX1) (N := 8) hx hb hts in_n_Keeper_1 tyX1 tyX1_ok nmX1 hown hK hP hD hS 0 rfl rfl 7 (by decide) (hts (.fieldLink RX1 29 "LanternHouse$Keeper" "cleaningHours" "I") (by decide +kernel)) (fun _ h9 => h9) rfl (by decide +kernel) rfl rfl (Nat.le_of_ble_eq_true rfl) dX1_init_34 (fun H locs hP hD hS => ?_)
  have hP : va_P (dC, dI) vwCl [(a0, .inr (1, [.null, .null, .null, .null, .ref q1, .ref q3, .ref q4, .int 0])), (q1, .inl (cQ, 9, .inr (.inr (.inr (.inr (fun i => if i < 9 then some (r2 i) else none)))))), ((r2 8), .inl (cI, 6, .inl (fun _ => 0))), (q4, .inl (cI, 20, .inl (fun _ => 0)))] H := hP
  have hD : va_D A [(a0, .inr (1, [.null, .null, .null, .null, .ref q1, .ref q3, .ref q4, .int 0])), (q1, .inl (cQ, 9, .inr (.inr (.inr (.inr (fun i => if i < 9 then some (r2 i) else none)))))), ((r2 8), .inl (cI, 6, .inl (fun _ => 0))), (q4, .inl (cI, 20, .inl (fun _ => 0)))] := hD
  refine lv_aload_n hx hb dX1_init_37 rfl (lv_at hl 0 rfl) ?_
  refine lv_aload_n hx hb dX1_init_38 rfl (lv_at hl 1 rfl) ?_
  refine va_putF (D := (dC, dI)) (ci := 1) (v := .ref aSh) (ty := .object "LanternHouse$Shows") (C := RX1) (T := TX1) (N := 8) hx hb hts in_n_Keeper_1 tyX1 tyX1_ok nmX1 hown hK hP hD hS 0 rfl rfl 0 (by decide) (hts (.fieldLink RX1 33 "LanternHouse$Keeper" "shows" "LLanternHouse$Shows;") (by decide +kernel)) (fun _ h9 => h9) rfl hin rfl (by decide +kernel) rfl rfl (Nat.le_of_ble_eq_true rfl) dX1_init_39 (fun H locs hP hD hS => ?_)
  have hP : va_P (dC, dI) vwCl [(a0, .inr (1, [.ref aSh, .null, .null, .null, .ref q1, .ref q3, .ref q4, .int 0])), (q1, .inl (cQ, 9, .inr (.inr (.inr (.inr (fun i => if i < 9 then some (r2 i) else none)))))), ((r2 8), .inl (cI, 6, .inl (fun _ => 0))), (q4, .inl (cI, 20, .inl (fun _ => 0)))] H := hP
  have hD : va_D A [(a0, .inr (1, [.ref aSh, .null, .null, .null, .ref q1, .ref q3, .ref q4, .int 0])), (q1, .inl (cQ, 9, .inr (.inr (.inr (.inr (fun i => if i < 9 then some (r2 i) else none)))))), ((r2 8), .inl (cI, 6, .inl (fun _ => 0))), (q4, .inl (cI, 20, .inl (fun _ => 0)))] := hD
  refine lv_aload_n hx hb dX1_init_42 rfl (lv_at hl 0 rfl) ?_
  refine lv_aload_n hx hb dX1_init_43 rfl (lv_at hl 2 rfl) ?_
  refine va_putF (D := (dC, dI)) (ci := 1) (v := .ref aS) (ty := .object "LanternHouse$Stock") (C := RX1) (T := TX1) (N := 8) hx hb hts in_n_Keeper_1 tyX1 tyX1_ok nmX1 hown hK hP hD hS 0 rfl rfl 1 (by decide) (hts (.fieldLink RX1 37 "LanternHouse$Keeper" "stock" "LLanternHouse$Stock;") (by decide +kernel)) (fun _ h9 => h9) rfl hin rfl (by decide +kernel) rfl rfl (Nat.le_of_ble_eq_true rfl) dX1_init_44 (fun H locs hP hD hS => ?_)
  have hP : va_P (dC, dI) vwCl [(a0, .inr (1, [.ref aSh, .ref aS, .null, .null, .ref q1, .ref q3, .ref q4, .int 0])), (q1, .inl (cQ, 9, .inr (.inr (.inr (.inr (fun i => if i < 9 then some (r2 i) else none)))))), ((r2 8), .inl (cI, 6, .inl (fun _ => 0))), (q4, .inl (cI, 20, .inl (fun _ => 0)))] H := hP
  have hD : va_D A [(a0, .inr (1, [.ref aSh, .ref aS, .null, .null, .ref q1, .ref q3, .ref q4, .int 0])), (q1, .inl (cQ, 9, .inr (.inr (.inr (.inr (fun i => if i < 9 then some (r2 i) else none)))))), ((r2 8), .inl (cI, 6, .inl (fun _ => 0))), (q4, .inl (cI, 20, .inl (fun _ => 0)))] := hD
  refine lv_aload_n hx hb dX1_init_47 rfl (lv_at hl 0 rfl) ?_
  refine lv_aload_n hx hb dX1_init_48 rfl (lv_at hl 3 rfl) ?_
  refine va_putF (D := (dC, dI)) (ci := 1) (v := .ref aF) (ty := .object "LanternHouse$Facts") (C := RX1) (T := TX1) (N := 8) hx hb hts in_n_Keeper_1 tyX1 tyX1_ok nmX1 hown hK hP hD hS 0 rfl rfl 2 (by decide) (hts (.fieldLink RX1 41 "LanternHouse$Keeper" "facts" "LLanternHouse$Facts;") (by decide +kernel)) (fun _ h9 => h9) rfl hin rfl (by decide +kernel) rfl rfl (Nat.le_of_ble_eq_true rfl) dX1_init_49 (fun H locs hP hD hS => ?_)
  have hP : va_P (dC, dI) vwCl [(a0, .inr (1, [.ref aSh, .ref aS, .ref aF, .null, .ref q1, .ref q3, .ref q4, .int 0])), (q1, .inl (cQ, 9, .inr (.inr (.inr (.inr (fun i => if i < 9 then some (r2 i) else none)))))), ((r2 8), .inl (cI, 6, .inl (fun _ => 0))), (q4, .inl (cI, 20, .inl (fun _ => 0)))] H := hP
  have hD : va_D A [(a0, .inr (1, [.ref aSh, .ref aS, .ref aF, .null, .ref q1, .ref q3, .ref q4, .int 0])), (q1, .inl (cQ, 9, .inr (.inr (.inr (.inr (fun i => if i < 9 then some (r2 i) else none)))))), ((r2 8), .inl (cI, 6, .inl (fun _ => 0))), (q4, .inl (cI, 20, .inl (fun _ => 0)))] := hD
  refine lv_aload_n hx hb dX1_init_52 rfl (lv_at hl 0 rfl) ?_
  refine lv_aload hx hb dX1_init_53 (lv_at hl 4 rfl) ?_
  refine va_putF (D := (dC, dI)) (ci := 1) (v := .ref aRa) (ty := .object "LanternHouse$Rails") (C := RX1) (T := TX1) (N := 8) hx hb hts in_n_Keeper_1 tyX1 tyX1_ok nmX1 hown hK hP hD hS 0 rfl rfl 3 (by decide) (hts (.fieldLink RX1 45 "LanternHouse$Keeper" "rails" "LLanternHouse$Rails;") (by decide +kernel)) (fun _ h9 => h9) rfl hin rfl (by decide +kernel) rfl rfl (Nat.le_of_ble_eq_true rfl) dX1_init_55 (fun H locs hP hD hS => ?_)
  have hP : va_P (dC, dI) vwCl [(a0, .inr (1, [.ref aSh, .ref aS, .ref aF, .ref aRa, .ref q1, .ref q3, .ref q4, .int 0])), (q1, .inl (cQ, 9, .inr (.inr (.inr (.inr (fun i => if i < 9 then some (r2 i) else none)))))), ((r2 8), .inl (cI, 6, .inl (fun _ => 0))), (q4, .inl (cI, 20, .inl (fun _ => 0)))] H := hP
  have hD : va_D A [(a0, .inr (1, [.ref aSh, .ref aS, .ref aF, .ref aRa, .ref q1, .ref q3, .ref q4, .int 0])), (q1, .inl (cQ, 9, .inr (.inr (.inr (.inr (fun i => if i < 9 then some (r2 i) else none)))))), ((r2 8), .inl (cI, 6, .inl (fun _ => 0))), (q4, .inl (cI, 20, .inl (fun _ => 0)))] := hD
  have hP9 : va_P (dC, dI) vwCl [(a0, .inr (1, [.ref aSh, .ref aS, .ref aF, .ref aRa, .ref q1, .ref q3, .ref q4, .int 0])), (q4, .inl (cI, 20, .inl (fun _ => 0))), (q1, .inl (cQ, 9, .inr (.inr (.inr (.inr (fun i => if i < 9 then some (r2 i) else none)))))), ((r2 8), .inl (cI, 6, .inl (fun _ => 0)))] H := hP.sub [0, 3, 1, 2] rfl
  have hD9 : va_D A [(a0, .inr (1, [.ref aSh, .ref aS, .ref aF, .ref aRa, .ref q1, .ref q3, .ref q4, .int 0])), (q4, .inl (cI, 20, .inl (fun _ => 0))), (q1, .inl (cQ, 9, .inr (.inr (.inr (.inr (fun i => if i < 9 then some (r2 i) else none)))))), ((r2 8), .inl (cI, 6, .inl (fun _ => 0)))] := hD.sub [0, 3, 1, 2] (by decide) rfl
  exact W.vret hx hb hr (fun t ht hW => ⟨⟨(), rfl, trivial, ⟨q4, q1, (r2 8), (fun i => if i < 9 then some (r2 i) else none), [.ref aSh, .ref aS, .ref aF, .ref aRa, .ref q1, .ref q3, .ref q4, .int 0], rfl, rfl, rfl, rfl, rfl, rfl, rfl, by rw [ht]; exact hP9, hD9⟩⟩, hS.F ht⟩) hS.2.2 dX1_init_58

