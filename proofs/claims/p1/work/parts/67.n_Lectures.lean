def zs_n_Lectures : List Cond := .code yX2_init cX2_init 1 none :: (([.methodLink RX2 1 objectInit, .instanceMethod objectInit, .code objectInit ⟨#[0xb1]⟩ 1 none, .arrayClass .long, .fieldLink RX2 9 "LanternHouse$Lectures" "names" "[J", .arrayClass .int, .fieldLink RX2 13 "LanternHouse$Lectures" "cueCounts" "[I", .fieldLink RX2 17 "LanternHouse$Lectures" "hireCounts" "[I", .arrayClass .boolean, .fieldLink RX2 20 "LanternHouse$Lectures" "musts" "[Z", .fieldLink RX2 24 "LanternHouse$Lectures" "kindCounts" "[I", .fieldLink RX2 27 "LanternHouse$Lectures" "kinds" "[I", .fieldLink RX2 30 "LanternHouse$Lectures" "minutes" "[I", .fieldLink RX2 33 "LanternHouse$Lectures" "fades" "[I", .fieldLink RX2 36 "LanternHouse$Lectures" "hireStarts" "[I", .fieldLink RX2 39 "LanternHouse$Lectures" "hireEnds" "[I", .fieldLink RX2 44 "LanternHouse$Lectures" "code" "[I", .fieldLink RX2 47 "LanternHouse$Lectures" "codeSize" "I", .fieldLink RX2 51 "LanternHouse$Lectures" "size" "I"] : List Cond) ++ (wsX20 ++ []))
theorem gd_n_Lectures : (zs_n_Lectures).all goodWord = true := by decide +kernel
theorem in_n_Lectures_2 : ∀ w ∈ wsX20, w ∈ zs_n_Lectures := fun w h => List.mem_cons_of_mem _ (List.mem_append_right _ (List.mem_append_left _ h))
abbrev ws_n_Lectures (cB cI cJ cZ cQ : ClassId) (a0 : Nat) : va_W := [(a0, .inr (2, [.null, .null, .null, .null, .null, .null, .null, .null, .null, .null, .null, .int 0, .int 0]))]
set_option maxHeartbeats 4000000 in
set_option maxRecDepth 100000 in
theorem n_Lectures (l : Launch) (dC : Nat → ClassId) (dI : Nat → Nat → Nat) (cB cI cJ cZ cQ : ClassId) (a0 : Nat) (sz : Nat) : Met l yX2_init zs_n_Lectures ({ frames := 1, cells := 11, slots := 1002, locals := 12 } : Room) (zPc [.ref a0] (dC, dI) (zTY cB cI cJ cZ cQ) (ws_n_Lectures cB cI cJ cZ cQ a0) sz) (va_Qv (fun (_ : Unit) => True) (fun (_ : Unit) (t : State) => ∃ (gsa0 : List Value), gsa0.length = 13 ∧ gsa0[12]? = some (.int 0) ∧ va_P (dC, dI) vwCl [(a0, .inr (2, gsa0))] t.heap ∧ va_D (va_A (ws_n_Lectures cB cI cJ cZ cQ a0) sz) [(a0, .inr (2, gsa0))]) (va_A (ws_n_Lectures cB cI cJ cZ cQ a0) sz)) 11 1002 (va_A (ws_n_Lectures cB cI cJ cZ cQ a0) sz) := by
  refine Met.ofW (cc := cX2_init) (maxL := 1) (ret := none) (by decide) rfl ?_
  intro p e s m args below meth c s₁ B hml hv
  obtain ⟨rfl, hsz, hP0, hK, hO, hD0⟩ := hv
  have hx := B.exec
  have hb := B.bytes
  have hr := B.returns
  have hts := atoms_spec (ws := zs_n_Lectures) B.pre
  have hown : s.vm.findClass RX2 = some m.cls := findClass_of_methodNamed B.named
  have hlocks := B.notSynchronized
  have hin : meth.name = "<init>" := (name_of_methodNamed B.named B.method).1
  subst hsz
  have hD8 := hD0.self (sz := s.heap.size)
  generalize hAe : va_A (ws_n_Lectures cB cI cJ cZ cQ a0) s.heap.size = A at hD8 ⊢
  have hA : ∀ q : Nat, s.heap.size ≤ q → A q := fun q h => by rw [← hAe]; exact Or.inr h
  have hS : va_S A s.heap s.heap [] := va_S.rf
  have hP : va_P (dC, dI) vwCl [(a0, .inr (2, [.null, .null, .null, .null, .null, .null, .null, .null, .null, .null, .null, .int 0, .int 0]))] s.heap := hP0
  have hD : va_D A [(a0, .inr (2, [.null, .null, .null, .null, .null, .null, .null, .null, .null, .null, .null, .int 0, .int 0]))] := hD8
  have hl := lv_entry ([.ref a0]) (n := 1) (Nat.le_of_ble_eq_true rfl)
  rw [lg_entry_eq]
  generalize (lg_sl ([.ref a0]) ++ List.replicate (1 - (lg_sl ([.ref a0])).length) Slot.unset).toArray = ls at hl ⊢
  have hl : lv_has ls 1 [(0, .ref a0)] := hl
  clear hP0 hD8 hD0
  refine zH0 (fun H hP hS => ?_) hP hS
  refine lv_aload_n hx hb dX2_init_0 rfl (lv_at hl 0 rfl) ?_
  refine W.objInit hx hb hown (hts (.methodLink RX2 1 objectInit) (by decide +kernel)) (hts (.instanceMethod objectInit) (by decide +kernel)) (hts (.code objectInit ⟨#[0xb1]⟩ 1 none) (by decide +kernel)) rfl (by rw [hml]; exact hl.1) rfl dX2_init_1 (Nat.le_of_ble_eq_true rfl) (Nat.le_of_ble_eq_true rfl) ?_
  refine W.eq (g2 := F0 m 4 ls []) rfl ?_
  refine lv_aload_n hx hb dX2_init_4 rfl (lv_at hl 0 rfl) ?_
  refine lv_bipush (v := 6) hx hb dX2_init_5 (by decide) ?_
  refine z_newa (atype := .long) (t0 := 2) (N' := 6) (a0 := (6, .inr (.inl (fun _ => 0)))) (ty := .long) hx hb (hts (.arrayClass .long) (by decide +kernel)) rfl hK rfl zra_J hP hD hS hA (fun _ => rfl) (by decide) (by decide) (by decide) (Nat.le_of_ble_eq_true rfl) (Nat.le_of_ble_eq_true rfl) dX2_init_7 (fun q1 H hP hD hS => ?_)
  have hP : va_P (dC, dI) vwCl [(a0, .inr (2, [.null, .null, .null, .null, .null, .null, .null, .null, .null, .null, .null, .int 0, .int 0])), (q1, .inl (cJ, 6, .inr (.inl (fun _ => 0))))] H := hP
  have hD : va_D A [(a0, .inr (2, [.null, .null, .null, .null, .null, .null, .null, .null, .null, .null, .null, .int 0, .int 0])), (q1, .inl (cJ, 6, .inr (.inl (fun _ => 0))))] := hD
  refine W.widen (k := 1) (n := 6) (Nat.le_of_ble_eq_true rfl) (Nat.le_of_ble_eq_true rfl) ?_
  refine va_putF (D := (dC, dI)) (ci := 2) (v := .ref q1) (ty := .array .long) (C := RX2) (T := TX2) (N := 13) hx hb hts in_n_Lectures_2 tyX2 tyX2_ok nmX2 hown hK hP hD hS 0 rfl rfl 0 (by decide) (hts (.fieldLink RX2 9 "LanternHouse$Lectures" "names" "[J") (by decide +kernel)) (fun _ h9 => h9) rfl hin rfl (by decide +kernel) rfl rfl (Nat.le_of_ble_eq_true rfl) dX2_init_9 (fun H locs hP hD hS => ?_)
  have hP : va_P (dC, dI) vwCl [(a0, .inr (2, [.ref q1, .null, .null, .null, .null, .null, .null, .null, .null, .null, .null, .int 0, .int 0]))] H := hP.sub [0] rfl
  have hD : va_D A [(a0, .inr (2, [.ref q1, .null, .null, .null, .null, .null, .null, .null, .null, .null, .null, .int 0, .int 0]))] := hD.sub [0] (by decide) rfl
  refine lv_aload_n hx hb dX2_init_12 rfl (lv_at hl 0 rfl) ?_
  refine lv_bipush (v := 6) hx hb dX2_init_13 (by decide) ?_
  refine z_newa (atype := .int) (t0 := 1) (N' := 6) (a0 := (6, .inl (fun _ => 0))) (ty := .int) hx hb (hts (.arrayClass .int) (by decide +kernel)) rfl hK rfl zra_I hP hD hS hA (fun _ => rfl) (by decide) (by decide) (by decide) (Nat.le_of_ble_eq_true rfl) (Nat.le_of_ble_eq_true rfl) dX2_init_15 (fun q2 H hP hD hS => ?_)
  have hP : va_P (dC, dI) vwCl [(a0, .inr (2, [.ref q1, .null, .null, .null, .null, .null, .null, .null, .null, .null, .null, .int 0, .int 0])), (q2, .inl (cI, 6, .inl (fun _ => 0)))] H := hP
  have hD : va_D A [(a0, .inr (2, [.ref q1, .null, .null, .null, .null, .null, .null, .null, .null, .null, .null, .int 0, .int 0])), (q2, .inl (cI, 6, .inl (fun _ => 0)))] := hD
  refine W.widen (k := 2) (n := 12) (Nat.le_of_ble_eq_true rfl) (Nat.le_of_ble_eq_true rfl) ?_
  refine va_putF (D := (dC, dI)) (ci := 2) (v := .ref q2) (ty := .array .int) (C := RX2) (T := TX2) (N := 13) hx hb hts in_n_Lectures_2 tyX2 tyX2_ok nmX2 hown hK hP hD hS 0 rfl rfl 1 (by decide) (hts (.fieldLink RX2 13 "LanternHouse$Lectures" "cueCounts" "[I") (by decide +kernel)) (fun _ h9 => h9) rfl hin rfl (by decide +kernel) rfl rfl (Nat.le_of_ble_eq_true rfl) dX2_init_17 (fun H locs hP hD hS => ?_)
  have hP : va_P (dC, dI) vwCl [(a0, .inr (2, [.ref q1, .ref q2, .null, .null, .null, .null, .null, .null, .null, .null, .null, .int 0, .int 0]))] H := hP.sub [0] rfl
  have hD : va_D A [(a0, .inr (2, [.ref q1, .ref q2, .null, .null, .null, .null, .null, .null, .null, .null, .null, .int 0, .int 0]))] := hD.sub [0] (by decide) rfl
  refine lv_aload_n hx hb dX2_init_20 rfl (lv_at hl 0 rfl) ?_
  refine lv_bipush (v := 6) hx hb dX2_init_21 (by decide) ?_
  refine z_newa (atype := .int) (t0 := 1) (N' := 6) (a0 := (6, .inl (fun _ => 0))) (ty := .int) hx hb (hts (.arrayClass .int) (by decide +kernel)) rfl hK rfl zra_I hP hD hS hA (fun _ => rfl) (by decide) (by decide) (by decide) (Nat.le_of_ble_eq_true rfl) (Nat.le_of_ble_eq_true rfl) dX2_init_23 (fun q3 H hP hD hS => ?_)
  have hP : va_P (dC, dI) vwCl [(a0, .inr (2, [.ref q1, .ref q2, .null, .null, .null, .null, .null, .null, .null, .null, .null, .int 0, .int 0])), (q3, .inl (cI, 6, .inl (fun _ => 0)))] H := hP
  have hD : va_D A [(a0, .inr (2, [.ref q1, .ref q2, .null, .null, .null, .null, .null, .null, .null, .null, .null, .int 0, .int 0])), (q3, .inl (cI, 6, .inl (fun _ => 0)))] := hD
  refine W.widen (k := 3) (n := 18) (Nat.le_of_ble_eq_true rfl) (Nat.le_of_ble_eq_true rfl) ?_
  refine va_putF (D := (dC, dI)) (ci := 2) (v := .ref q3) (ty := .array .int) (C := RX2) (T := TX2) (N := 13) hx hb hts in_n_Lectures_2 tyX2 tyX2_ok nmX2 hown hK hP hD hS 0 rfl rfl 2 (by decide) (hts (.fieldLink RX2 17 "LanternHouse$Lectures" "hireCounts" "[I") (by decide +kernel)) (fun _ h9 => h9) rfl hin rfl (by decide +kernel) rfl rfl (Nat.le_of_ble_eq_true rfl) dX2_init_25 (fun H locs hP hD hS => ?_)
  have hP : va_P (dC, dI) vwCl [(a0, .inr (2, [.ref q1, .ref q2, .ref q3, .null, .null, .null, .null, .null, .null, .null, .null, .int 0, .int 0]))] H := hP.sub [0] rfl
  have hD : va_D A [(a0, .inr (2, [.ref q1, .ref q2, .ref q3, .null, .null, .null, .null, .null, .null, .null, .null, .int 0, .int 0]))] := hD.sub [0] (by decide) rfl
  refine lv_aload_n hx hb dX2_init_28 rfl (lv_at hl 0 rfl) ?_
  refine lv_bipush (v := 48) hx hb dX2_init_29 (by decide) ?_
  refine z_newa (atype := .boolean) (t0 := 3) (N' := 48) (a0 := (48, .inl (fun _ => 0))) (ty := .boolean) hx hb (hts (.arrayClass .boolean) (by decide +kernel)) rfl hK rfl zra_Z hP hD hS hA (fun _ => rfl) (by decide) (by decide) (by decide) (Nat.le_of_ble_eq_true rfl) (Nat.le_of_ble_eq_true rfl) dX2_init_31 (fun q4 H hP hD hS => ?_)
  have hP : va_P (dC, dI) vwCl [(a0, .inr (2, [.ref q1, .ref q2, .ref q3, .null, .null, .null, .null, .null, .null, .null, .null, .int 0, .int 0])), (q4, .inl (cZ, 48, .inl (fun _ => 0)))] H := hP
  have hD : va_D A [(a0, .inr (2, [.ref q1, .ref q2, .ref q3, .null, .null, .null, .null, .null, .null, .null, .null, .int 0, .int 0])), (q4, .inl (cZ, 48, .inl (fun _ => 0)))] := hD
  refine W.widen (k := 4) (n := 66) (Nat.le_of_ble_eq_true rfl) (Nat.le_of_ble_eq_true rfl) ?_
  refine va_putF (D := (dC, dI)) (ci := 2) (v := .ref q4) (ty := .array .boolean) (C := RX2) (T := TX2) (N := 13) hx hb hts in_n_Lectures_2 tyX2 tyX2_ok nmX2 hown hK hP hD hS 0 rfl rfl 3 (by decide) (hts (.fieldLink RX2 20 "LanternHouse$Lectures" "musts" "[Z") (by decide +kernel)) (fun _ h9 => h9) rfl hin rfl (by decide +kernel) rfl rfl (Nat.le_of_ble_eq_true rfl) dX2_init_33 (fun H locs hP hD hS => ?_)
  have hP : va_P (dC, dI) vwCl [(a0, .inr (2, [.ref q1, .ref q2, .ref q3, .ref q4, .null, .null, .null, .null, .null, .null, .null, .int 0, .int 0]))] H := hP.sub [0] rfl
  have hD : va_D A [(a0, .inr (2, [.ref q1, .ref q2, .ref q3, .ref q4, .null, .null, .null, .null, .null, .null, .null, .int 0, .int 0]))] := hD.sub [0] (by decide) rfl
  refine lv_aload_n hx hb dX2_init_36 rfl (lv_at hl 0 rfl) ?_
  refine lv_bipush (v := 48) hx hb dX2_init_37 (by decide) ?_
  refine z_newa (atype := .int) (t0 := 1) (N' := 48) (a0 := (48, .inl (fun _ => 0))) (ty := .int) hx hb (hts (.arrayClass .int) (by decide +kernel)) rfl hK rfl zra_I hP hD hS hA (fun _ => rfl) (by decide) (by decide) (by decide) (Nat.le_of_ble_eq_true rfl) (Nat.le_of_ble_eq_true rfl) dX2_init_39 (fun q5 H hP hD hS => ?_)
  have hP : va_P (dC, dI) vwCl [(a0, .inr (2, [.ref q1, .ref q2, .ref q3, .ref q4, .null, .null, .null, .null, .null, .null, .null, .int 0, .int 0])), (q5, .inl (cI, 48, .inl (fun _ => 0)))] H := hP
  have hD : va_D A [(a0, .inr (2, [.ref q1, .ref q2, .ref q3, .ref q4, .null, .null, .null, .null, .null, .null, .null, .int 0, .int 0])), (q5, .inl (cI, 48, .inl (fun _ => 0)))] := hD
  refine W.widen (k := 5) (n := 114) (Nat.le_of_ble_eq_true rfl) (Nat.le_of_ble_eq_true rfl) ?_
  refine va_putF (D := (dC, dI)) (ci := 2) (v := .ref q5) (ty := .array .int) (C := RX2) (T := TX2) (N := 13) hx hb hts in_n_Lectures_2 tyX2 tyX2_ok nmX2 hown hK hP hD hS 0 rfl rfl 4 (by decide) (hts (.fieldLink RX2 24 "LanternHouse$Lectures" "kindCounts" "[I") (by decide +kernel)) (fun _ h9 => h9) rfl hin rfl (by decide +kernel) rfl rfl (Nat.le_of_ble_eq_true rfl) dX2_init_41 (fun H locs hP hD hS => ?_)
  have hP : va_P (dC, dI) vwCl [(a0, .inr (2, [.ref q1, .ref q2, .ref q3, .ref q4, .ref q5, .null, .null, .null, .null, .null, .null, .int 0, .int 0]))] H := hP.sub [0] rfl
  have hD : va_D A [(a0, .inr (2, [.ref q1, .ref q2, .ref q3, .ref q4, .ref q5, .null, .null, .null, .null, .null, .null, .int 0, .int 0]))] := hD.sub [0] (by decide) rfl
  refine lv_aload_n hx hb dX2_init_44 rfl (lv_at hl 0 rfl) ?_
  refine lv_sipush (v := 144) hx hb dX2_init_45 (by decide) ?_
  refine z_newa (atype := .int) (t0 := 1) (N' := 144) (a0 := (144, .inl (fun _ => 0))) (ty := .int) hx hb (hts (.arrayClass .int) (by decide +kernel)) rfl hK rfl zra_I hP hD hS hA (fun _ => rfl) (by decide) (by decide) (by decide) (Nat.le_of_ble_eq_true rfl) (Nat.le_of_ble_eq_true rfl) dX2_init_48 (fun q6 H hP hD hS => ?_)
  have hP : va_P (dC, dI) vwCl [(a0, .inr (2, [.ref q1, .ref q2, .ref q3, .ref q4, .ref q5, .null, .null, .null, .null, .null, .null, .int 0, .int 0])), (q6, .inl (cI, 144, .inl (fun _ => 0)))] H := hP
  have hD : va_D A [(a0, .inr (2, [.ref q1, .ref q2, .ref q3, .ref q4, .ref q5, .null, .null, .null, .null, .null, .null, .int 0, .int 0])), (q6, .inl (cI, 144, .inl (fun _ => 0)))] := hD
  refine W.widen (k := 6) (n := 258) (Nat.le_of_ble_eq_true rfl) (Nat.le_of_ble_eq_true rfl) ?_
  refine va_putF (D := (dC, dI)) (ci := 2) (v := .ref q6) (ty := .array .int) (C := RX2) (T := TX2) (N := 13) hx hb hts in_n_Lectures_2 tyX2 tyX2_ok nmX2 hown hK hP hD hS 0 rfl rfl 5 (by decide) (hts (.fieldLink RX2 27 "LanternHouse$Lectures" "kinds" "[I") (by decide +kernel)) (fun _ h9 => h9) rfl hin rfl (by decide +kernel) rfl rfl (Nat.le_of_ble_eq_true rfl) dX2_init_50 (fun H locs hP hD hS => ?_)
  have hP : va_P (dC, dI) vwCl [(a0, .inr (2, [.ref q1, .ref q2, .ref q3, .ref q4, .ref q5, .ref q6, .null, .null, .null, .null, .null, .int 0, .int 0]))] H := hP.sub [0] rfl
  have hD : va_D A [(a0, .inr (2, [.ref q1, .ref q2, .ref q3, .ref q4, .ref q5, .ref q6, .null, .null, .null, .null, .null, .int 0, .int 0]))] := hD.sub [0] (by decide) rfl
  refine lv_aload_n hx hb dX2_init_53 rfl (lv_at hl 0 rfl) ?_
  refine lv_bipush (v := 48) hx hb dX2_init_54 (by decide) ?_
  refine z_newa (atype := .int) (t0 := 1) (N' := 48) (a0 := (48, .inl (fun _ => 0))) (ty := .int) hx hb (hts (.arrayClass .int) (by decide +kernel)) rfl hK rfl zra_I hP hD hS hA (fun _ => rfl) (by decide) (by decide) (by decide) (Nat.le_of_ble_eq_true rfl) (Nat.le_of_ble_eq_true rfl) dX2_init_56 (fun q7 H hP hD hS => ?_)
  have hP : va_P (dC, dI) vwCl [(a0, .inr (2, [.ref q1, .ref q2, .ref q3, .ref q4, .ref q5, .ref q6, .null, .null, .null, .null, .null, .int 0, .int 0])), (q7, .inl (cI, 48, .inl (fun _ => 0)))] H := hP
  have hD : va_D A [(a0, .inr (2, [.ref q1, .ref q2, .ref q3, .ref q4, .ref q5, .ref q6, .null, .null, .null, .null, .null, .int 0, .int 0])), (q7, .inl (cI, 48, .inl (fun _ => 0)))] := hD
  refine W.widen (k := 7) (n := 306) (Nat.le_of_ble_eq_true rfl) (Nat.le_of_ble_eq_true rfl) ?_
  refine va_putF (D := (dC, dI)) (ci := 2) (v := .ref q7) (ty := .array .int) (C := RX2) (T := TX2) (N := 13) hx hb hts in_n_Lectures_2 tyX2 tyX2_ok nmX2 hown hK hP hD hS 0 rfl rfl 6 (by decide) (hts (.fieldLink RX2 30 "LanternHouse$Lectures" "minutes" "[I") (by decide +kernel)) (fun _ h9 => h9) rfl hin rfl (by decide +kernel) rfl rfl (Nat.le_of_ble_eq_true rfl) dX2_init_58 (fun H locs hP hD hS => ?_)
  have hP : va_P (dC, dI) vwCl [(a0, .inr (2, [.ref q1, .ref q2, .ref q3, .ref q4, .ref q5, .ref q6, .ref q7, .null, .null, .null, .null, .int 0, .int 0]))] H := hP.sub [0] rfl
  have hD : va_D A [(a0, .inr (2, [.ref q1, .ref q2, .ref q3, .ref q4, .ref q5, .ref q6, .ref q7, .null, .null, .null, .null, .int 0, .int 0]))] := hD.sub [0] (by decide) rfl
  refine lv_aload_n hx hb dX2_init_61 rfl (lv_at hl 0 rfl) ?_
  refine lv_bipush (v := 48) hx hb dX2_init_62 (by decide) ?_
  refine z_newa (atype := .int) (t0 := 1) (N' := 48) (a0 := (48, .inl (fun _ => 0))) (ty := .int) hx hb (hts (.arrayClass .int) (by decide +kernel)) rfl hK rfl zra_I hP hD hS hA (fun _ => rfl) (by decide) (by decide) (by decide) (Nat.le_of_ble_eq_true rfl) (Nat.le_of_ble_eq_true rfl) dX2_init_64 (fun q8 H hP hD hS => ?_)
  have hP : va_P (dC, dI) vwCl [(a0, .inr (2, [.ref q1, .ref q2, .ref q3, .ref q4, .ref q5, .ref q6, .ref q7, .null, .null, .null, .null, .int 0, .int 0])), (q8, .inl (cI, 48, .inl (fun _ => 0)))] H := hP
  have hD : va_D A [(a0, .inr (2, [.ref q1, .ref q2, .ref q3, .ref q4, .ref q5, .ref q6, .ref q7, .null, .null, .null, .null, .int 0, .int 0])), (q8, .inl (cI, 48, .inl (fun _ => 0)))] := hD
  refine W.widen (k := 8) (n := 354) (Nat.le_of_ble_eq_true rfl) (Nat.le_of_ble_eq_true rfl) ?_
  refine va_putF (D := (dC, dI)) (ci := 2) (v := .ref q8) (ty := .array .int) (C := RX2) (T := TX2) (N := 13) hx hb hts in_n_Lectures_2 tyX2 tyX2_ok nmX2 hown hK hP hD hS 0 rfl rfl 7 (by decide) (hts (.fieldLink RX2 33 "LanternHouse$Lectures" "fades" "[I") (by decide +kernel)) (fun _ h9 => h9) rfl hin rfl (by decide +kernel) rfl rfl (Nat.le_of_ble_eq_true rfl) dX2_init_66 (fun H locs hP hD hS => ?_)
  have hP : va_P (dC, dI) vwCl [(a0, .inr (2, [.ref q1, .ref q2, .ref q3, .ref q4, .ref q5, .ref q6, .ref q7, .ref q8, .null, .null, .null, .int 0, .int 0]))] H := hP.sub [0] rfl
  have hD : va_D A [(a0, .inr (2, [.ref q1, .ref q2, .ref q3, .ref q4, .ref q5, .ref q6, .ref q7, .ref q8, .null, .null, .null, .int 0, .int 0]))] := hD.sub [0] (by decide) rfl
  refine lv_aload_n hx hb dX2_init_69 rfl (lv_at hl 0 rfl) ?_
  refine lv_bipush (v := 24) hx hb dX2_init_70 (by decide) ?_
  refine z_newa (atype := .int) (t0 := 1) (N' := 24) (a0 := (24, .inl (fun _ => 0))) (ty := .int) hx hb (hts (.arrayClass .int) (by decide +kernel)) rfl hK rfl zra_I hP hD hS hA (fun _ => rfl) (by decide) (by decide) (by decide) (Nat.le_of_ble_eq_true rfl) (Nat.le_of_ble_eq_true rfl) dX2_init_72 (fun q9 H hP hD hS => ?_)
  have hP : va_P (dC, dI) vwCl [(a0, .inr (2, [.ref q1, .ref q2, .ref q3, .ref q4, .ref q5, .ref q6, .ref q7, .ref q8, .null, .null, .null, .int 0, .int 0])), (q9, .inl (cI, 24, .inl (fun _ => 0)))] H := hP
  have hD : va_D A [(a0, .inr (2, [.ref q1, .ref q2, .ref q3, .ref q4, .ref q5, .ref q6, .ref q7, .ref q8, .null, .null, .null, .int 0, .int 0])), (q9, .inl (cI, 24, .inl (fun _ => 0)))] := hD
  refine W.widen (k := 9) (n := 378) (Nat.le_of_ble_eq_true rfl) (Nat.le_of_ble_eq_true rfl) ?_
  refine va_putF (D := (dC, dI)) (ci := 2) (v := .ref q9) (ty := .array .int) (C := RX2) (T := TX2) (N := 13) hx hb hts in_n_Lectures_2 tyX2 tyX2_ok nmX2 hown hK hP hD hS 0 rfl rfl 8 (by decide) (hts (.fieldLink RX2 36 "LanternHouse$Lectures" "hireStarts" "[I") (by decide +kernel)) (fun _ h9 => h9) rfl hin rfl (by decide +kernel) rfl rfl (Nat.le_of_ble_eq_true rfl) dX2_init_74 (fun H locs hP hD hS => ?_)
  have hP : va_P (dC, dI) vwCl [(a0, .inr (2, [.ref q1, .ref q2, .ref q3, .ref q4, .ref q5, .ref q6, .ref q7, .ref q8, .ref q9, .null, .null, .int 0, .int 0]))] H := hP.sub [0] rfl
  have hD : va_D A [(a0, .inr (2, [.ref q1, .ref q2, .ref q3, .ref q4, .ref q5, .ref q6, .ref q7, .ref q8, .ref q9, .null, .null, .int 0, .int 0]))] := hD.sub [0] (by decide) rfl
  refine lv_aload_n hx hb dX2_init_77 rfl (lv_at hl 0 rfl) ?_
  refine lv_bipush (v := 24) hx hb dX2_init_78 (by decide) ?_
  refine z_newa (atype := .int) (t0 := 1) (N' := 24) (a0 := (24, .inl (fun _ => 0))) (ty := .int) hx hb (hts (.arrayClass .int) (by decide +kernel)) rfl hK rfl zra_I hP hD hS hA (fun _ => rfl) (by decide) (by decide) (by decide) (Nat.le_of_ble_eq_true rfl) (Nat.le_of_ble_eq_true rfl) dX2_init_80 (fun q10 H hP hD hS => ?_)
  have hP : va_P (dC, dI) vwCl [(a0, .inr (2, [.ref q1, .ref q2, .ref q3, .ref q4, .ref q5, .ref q6, .ref q7, .ref q8, .ref q9, .null, .null, .int 0, .int 0])), (q10, .inl (cI, 24, .inl (fun _ => 0)))] H := hP
  have hD : va_D A [(a0, .inr (2, [.ref q1, .ref q2, .ref q3, .ref q4, .ref q5, .ref q6, .ref q7, .ref q8, .ref q9, .null, .null, .int 0, .int 0])), (q10, .inl (cI, 24, .inl (fun _ => 0)))] := hD
  refine W.widen (k := 10) (n := 402) (Nat.le_of_ble_eq_true rfl) (Nat.le_of_ble_eq_true rfl) ?_
  refine va_putF (D := (dC, dI)) (ci := 2) (v := .ref q10) (ty := .array .int) (C := RX2) (T := TX2) (N := 13) hx hb hts in_n_Lectures_2 tyX2 tyX2_ok nmX2 hown hK hP hD hS 0 rfl rfl 9 (by decide) (hts (.fieldLink RX2 39 "LanternHouse$Lectures" "hireEnds" "[I") (by decide +kernel)) (fun _ h9 => h9) rfl hin rfl (by decide +kernel) rfl rfl (Nat.le_of_ble_eq_true rfl) dX2_init_82 (fun H locs hP hD hS => ?_)
  have hP : va_P (dC, dI) vwCl [(a0, .inr (2, [.ref q1, .ref q2, .ref q3, .ref q4, .ref q5, .ref q6, .ref q7, .ref q8, .ref q9, .ref q10, .null, .int 0, .int 0]))] H := hP.sub [0] rfl
  have hD : va_D A [(a0, .inr (2, [.ref q1, .ref q2, .ref q3, .ref q4, .ref q5, .ref q6, .ref q7, .ref q8, .ref q9, .ref q10, .null, .int 0, .int 0]))] := hD.sub [0] (by decide) rfl
  refine lv_aload_n hx hb dX2_init_85 rfl (lv_at hl 0 rfl) ?_
  refine lv_sipush (v := 600) hx hb dX2_init_86 (by decide) ?_
  refine z_newa (atype := .int) (t0 := 1) (N' := 600) (a0 := (600, .inl (fun _ => 0))) (ty := .int) hx hb (hts (.arrayClass .int) (by decide +kernel)) rfl hK rfl zra_I hP hD hS hA (fun _ => rfl) (by decide) (by decide) (by decide) (Nat.le_of_ble_eq_true rfl) (Nat.le_of_ble_eq_true rfl) dX2_init_89 (fun q11 H hP hD hS => ?_)
  have hP : va_P (dC, dI) vwCl [(a0, .inr (2, [.ref q1, .ref q2, .ref q3, .ref q4, .ref q5, .ref q6, .ref q7, .ref q8, .ref q9, .ref q10, .null, .int 0, .int 0])), (q11, .inl (cI, 600, .inl (fun _ => 0)))] H := hP
  have hD : va_D A [(a0, .inr (2, [.ref q1, .ref q2, .ref q3, .ref q4, .ref q5, .ref q6, .ref q7, .ref q8, .ref q9, .ref q10, .null, .int 0, .int 0])), (q11, .inl (cI, 600, .inl (fun _ => 0)))] := hD
  refine W.widen (k := 11) (n := 1002) (Nat.le_of_ble_eq_true rfl) (Nat.le_of_ble_eq_true rfl) ?_
  refine va_putF (D := (dC, dI)) (ci := 2) (v := .ref q11) (ty := .array .int) (C := RX2) (T := TX2) (N := 13) hx hb hts in_n_Lectures_2 tyX2 tyX2_ok nmX2 hown hK hP hD hS 0 rfl rfl 10 (by decide) (hts (.fieldLink RX2 44 "LanternHouse$Lectures" "code" "[I") (by decide +kernel)) (fun _ h9 => h9) rfl hin rfl (by decide +kernel) rfl rfl (Nat.le_of_ble_eq_true rfl) dX2_init_91 (fun H locs hP hD hS => ?_)
  have hP : va_P (dC, dI) vwCl [(a0, .inr (2, [.ref q1, .ref q2, .ref q3, .ref q4, .ref q5, .ref q6, .ref q7, .ref q8, .ref q9, .ref q10, .ref q11, .int 0, .int 0]))] H := hP.sub [0] rfl
  have hD : va_D A [(a0, .inr (2, [.ref q1, .ref q2, .ref q3, .ref q4, .ref q5, .ref q6, .ref q7, .ref q8, .ref q9, .ref q10, .ref q11, .int 0, .int 0]))] := hD.sub [0] (by decide) rfl
  refine lv_aload_n hx hb dX2_init_94 rfl (lv_at hl 0 rfl) ?_
  refine lv_iconst (v := 0) hx hb dX2_init_95 (by decide) ?_
  refine va_put (D := (dC, dI)) (ci := 2) (v := .int 0) (ty := .int) (C := RX2) (T := TX2) (N := 13) hx hb hts in_n_Lectures_2 tyX2 tyX2_ok nmX2 hown hK hP hD hS 0 rfl rfl 11 (by decide) (hts (.fieldLink RX2 47 "LanternHouse$Lectures" "codeSize" "I") (by decide +kernel)) (fun _ h9 => h9) rfl (by decide +kernel) rfl rfl (Nat.le_of_ble_eq_true rfl) dX2_init_96 (fun H locs hP hD hS => ?_)
  have hP : va_P (dC, dI) vwCl [(a0, .inr (2, [.ref q1, .ref q2, .ref q3, .ref q4, .ref q5, .ref q6, .ref q7, .ref q8, .ref q9, .ref q10, .ref q11, .int 0, .int 0]))] H := hP
  have hD : va_D A [(a0, .inr (2, [.ref q1, .ref q2, .ref q3, .ref q4, .ref q5, .ref q6, .ref q7, .ref q8, .ref q9, .ref q10, .ref q11, .int 0, .int 0]))] := hD
  refine lv_aload_n hx hb dX2_init_99 rfl (lv_at hl 0 rfl) ?_
  refine lv_iconst (v := 0) hx hb dX2_init_100 (by decide) ?_
  refine va_put (D := (dC, dI)) (ci := 2) (v := .int 0) (ty := .int) (C := RX2) (T := TX2) (N := 13) hx hb hts in_n_Lectures_2 tyX2 tyX2_ok nmX2 hown hK hP hD hS 0 rfl rfl 12 (by decide) (hts (.fieldLink RX2 51 "LanternHouse$Lectures" "size" "I") (by decide +kernel)) (fun _ h9 => h9) rfl (by decide +kernel) rfl rfl (Nat.le_of_ble_eq_true rfl) dX2_init_101 (fun H locs hP hD hS => ?_)
  have hP : va_P (dC, dI) vwCl [(a0, .inr (2, [.ref q1, .ref q2, .ref q3, .ref q4, .ref q5, .ref q6, .ref q7, .ref q8, .ref q9, .ref q10, .ref q11, .int 0, .int 0]))] H := hP
  have hD : va_D A [(a0, .inr (2, [.ref q1, .ref q2, .ref q3, .ref q4, .ref q5, .ref q6, .ref q7, .ref q8, .ref q9, .ref q10, .ref q11, .int 0, .int 0]))] := hD
  have hP9 : va_P (dC, dI) vwCl [(a0, .inr (2, [.ref q1, .ref q2, .ref q3, .ref q4, .ref q5, .ref q6, .ref q7, .ref q8, .ref q9, .ref q10, .ref q11, .int 0, .int 0]))] H := hP.sub [0] rfl
  have hD9 : va_D A [(a0, .inr (2, [.ref q1, .ref q2, .ref q3, .ref q4, .ref q5, .ref q6, .ref q7, .ref q8, .ref q9, .ref q10, .ref q11, .int 0, .int 0]))] := hD.sub [0] (by decide) rfl
  exact W.vret hx hb hr (fun t ht hW => ⟨⟨(), rfl, trivial, ⟨[.ref q1, .ref q2, .ref q3, .ref q4, .ref q5, .ref q6, .ref q7, .ref q8, .ref q9, .ref q10, .ref q11, .int 0, .int 0], rfl, rfl, by rw [ht]; exact hP9, hD9⟩⟩, hS.F ht⟩) hS.2.2 dX2_init_104

