def zs_n_Tokens : List Cond := .code yX10_init cX10_init 1 none :: (([.methodLink RX10 3 objectInit, .instanceMethod objectInit, .code objectInit ⟨#[0xb1]⟩ 1 none, .arrayClass .int, .fieldLink RX10 11 "LanternHouse$Tokens" "sorts" "[I", .fieldLink RX10 15 "LanternHouse$Tokens" "places" "[I", .arrayClass .long, .fieldLink RX10 18 "LanternHouse$Tokens" "values" "[J"] : List Cond) ++ (wsX100 ++ []))
theorem gd_n_Tokens : (zs_n_Tokens).all goodWord = true := by decide +kernel
theorem in_n_Tokens_10 : ∀ w ∈ wsX100, w ∈ zs_n_Tokens := fun w h => List.mem_cons_of_mem _ (List.mem_append_right _ (List.mem_append_left _ h))
abbrev ws_n_Tokens (cB cI cJ cZ cQ : ClassId) (a0 : Nat) : va_W := [(a0, .inr (10, [.null, .null, .null]))]
set_option maxHeartbeats 4000000 in
set_option maxRecDepth 100000 in
theorem n_Tokens (l : Launch) (dC : Nat → ClassId) (dI : Nat → Nat → Nat) (cB cI cJ cZ cQ : ClassId) (a0 : Nat) (sz : Nat) : Met l yX10_init zs_n_Tokens ({ frames := 1, cells := 3, slots := 1803, locals := 12 } : Room) (zPc [.ref a0] (dC, dI) (zTY cB cI cJ cZ cQ) (ws_n_Tokens cB cI cJ cZ cQ a0) sz) (va_Qv (fun (_ : Unit) => True) (fun (_ : Unit) (t : State) => ∃ (esorts : Nat), ∃ (eplaces : Nat), ∃ (evalues : Nat), ∃ (gsa0 : List Value), gsa0.length = 3 ∧ gsa0[0]? = some (.ref esorts) ∧ gsa0[1]? = some (.ref eplaces) ∧ gsa0[2]? = some (.ref evalues) ∧ va_P (dC, dI) vwCl [(a0, .inr (10, gsa0)), (esorts, .inl (cI, 601, .inl (fun _ => 0))), (eplaces, .inl (cI, 601, .inl (fun _ => 0))), (evalues, .inl (cJ, 601, .inr (.inl (fun _ => 0))))] t.heap ∧ va_D (va_A (ws_n_Tokens cB cI cJ cZ cQ a0) sz) [(a0, .inr (10, gsa0)), (esorts, .inl (cI, 601, .inl (fun _ => 0))), (eplaces, .inl (cI, 601, .inl (fun _ => 0))), (evalues, .inl (cJ, 601, .inr (.inl (fun _ => 0))))]) (va_A (ws_n_Tokens cB cI cJ cZ cQ a0) sz)) 3 1803 (va_A (ws_n_Tokens cB cI cJ cZ cQ a0) sz) := by
  refine Met.ofW (cc := cX10_init) (maxL := 1) (ret := none) (by decide) rfl ?_
  intro p e s m args below meth c s₁ B hml hv
  obtain ⟨rfl, hsz, hP0, hK, hO, hD0⟩ := hv
  have hx := B.exec
  have hb := B.bytes
  have hr := B.returns
  have hts := atoms_spec (ws := zs_n_Tokens) B.pre
  have hown : s.vm.findClass RX10 = some m.cls := findClass_of_methodNamed B.named
  have hlocks := B.notSynchronized
  have hin : meth.name = "<init>" := (name_of_methodNamed B.named B.method).1
  subst hsz
  have hD8 := hD0.self (sz := s.heap.size)
  generalize hAe : va_A (ws_n_Tokens cB cI cJ cZ cQ a0) s.heap.size = A at hD8 ⊢
  have hA : ∀ q : Nat, s.heap.size ≤ q → A q := fun q h => by rw [← hAe]; exact Or.inr h
  have hS : va_S A s.heap s.heap [] := va_S.rf
  have hP : va_P (dC, dI) vwCl [(a0, .inr (10, [.null, .null, .null]))] s.heap := hP0
  have hD : va_D A [(a0, .inr (10, [.null, .null, .null]))] := hD8
  have hl := lv_entry ([.ref a0]) (n := 1) (Nat.le_of_ble_eq_true rfl)
  rw [lg_entry_eq]
  generalize (lg_sl ([.ref a0]) ++ List.replicate (1 - (lg_sl ([.ref a0])).length) Slot.unset).toArray = ls at hl ⊢
  have hl : lv_has ls 1 [(0, .ref a0)] := hl
  clear hP0 hD8 hD0
  refine zH0 (fun H hP hS => ?_) hP hS
  refine lv_aload_n hx hb dX10_init_0 rfl (lv_at hl 0 rfl) ?_
  refine W.objInit hx hb hown (hts (.methodLink RX10 3 objectInit) (by decide +kernel)) (hts (.instanceMethod objectInit) (by decide +kernel)) (hts (.code objectInit ⟨#[0xb1]⟩ 1 none) (by decide +kernel)) rfl (by rw [hml]; exact hl.1) rfl dX10_init_1 (Nat.le_of_ble_eq_true rfl) (Nat.le_of_ble_eq_true rfl) ?_
  refine W.eq (g2 := F0 m 4 ls []) rfl ?_
  refine lv_aload_n hx hb dX10_init_4 rfl (lv_at hl 0 rfl) ?_
  refine lv_sipush (v := 601) hx hb dX10_init_5 (by decide) ?_
  refine z_newa (atype := .int) (t0 := 1) (N' := 601) (a0 := (601, .inl (fun _ => 0))) (ty := .int) hx hb (hts (.arrayClass .int) (by decide +kernel)) rfl hK rfl zra_I hP hD hS hA (fun _ => rfl) (by decide) (by decide) (by decide) (Nat.le_of_ble_eq_true rfl) (Nat.le_of_ble_eq_true rfl) dX10_init_8 (fun q1 H hP hD hS => ?_)
  have hP : va_P (dC, dI) vwCl [(a0, .inr (10, [.null, .null, .null])), (q1, .inl (cI, 601, .inl (fun _ => 0)))] H := hP
  have hD : va_D A [(a0, .inr (10, [.null, .null, .null])), (q1, .inl (cI, 601, .inl (fun _ => 0)))] := hD
  refine W.widen (k := 1) (n := 601) (Nat.le_of_ble_eq_true rfl) (Nat.le_of_ble_eq_true rfl) ?_
  refine va_putF (D := (dC, dI)) (ci := 10) (v := .ref q1) (ty := .array .int) (C := RX10) (T := TX10) (N := 3) hx hb hts in_n_Tokens_10 tyX10 tyX10_ok nmX10 hown hK hP hD hS 0 rfl rfl 0 (by decide) (hts (.fieldLink RX10 11 "LanternHouse$Tokens" "sorts" "[I") (by decide +kernel)) (fun _ h9 => h9) rfl hin rfl (by decide +kernel) rfl rfl (Nat.le_of_ble_eq_true rfl) dX10_init_10 (fun H locs hP hD hS => ?_)
  have hP : va_P (dC, dI) vwCl [(a0, .inr (10, [.ref q1, .null, .null])), (q1, .inl (cI, 601, .inl (fun _ => 0)))] H := hP
  have hD : va_D A [(a0, .inr (10, [.ref q1, .null, .null])), (q1, .inl (cI, 601, .inl (fun _ => 0)))] := hD
  refine lv_aload_n hx hb dX10_init_13 rfl (lv_at hl 0 rfl) ?_
  refine lv_sipush (v := 601) hx hb dX10_init_14 (by decide) ?_
  refine z_newa (atype := .int) (t0 := 1) (N' := 601) (a0 := (601, .inl (fun _ => 0))) (ty := .int) hx hb (hts (.arrayClass .int) (by decide +kernel)) rfl hK rfl zra_I hP hD hS hA (fun _ => rfl) (by decide) (by decide) (by decide) (Nat.le_of_ble_eq_true rfl) (Nat.le_of_ble_eq_true rfl) dX10_init_17 (fun q2 H hP hD hS => ?_)
  have hP : va_P (dC, dI) vwCl [(a0, .inr (10, [.ref q1, .null, .null])), (q1, .inl (cI, 601, .inl (fun _ => 0))), (q2, .inl (cI, 601, .inl (fun _ => 0)))] H := hP
  have hD : va_D A [(a0, .inr (10, [.ref q1, .null, .null])), (q1, .inl (cI, 601, .inl (fun _ => 0))), (q2, .inl (cI, 601, .inl (fun _ => 0)))] := hD
  refine W.widen (k := 2) (n := 1202) (Nat.le_of_ble_eq_true rfl) (Nat.le_of_ble_eq_true rfl) ?_
  refine va_putF (D := (dC, dI)) (ci := 10) (v := .ref q2) (ty := .array .int) (C := RX10) (T := TX10) (N := 3) hx hb hts in_n_Tokens_10 tyX10 tyX10_ok nmX10 hown hK hP hD hS 0 rfl rfl 1 (by decide) (hts (.fieldLink RX10 15 "LanternHouse$Tokens" "places" "[I") (by decide +kernel)) (fun _ h9 => h9) rfl hin rfl (by decide +kernel) rfl rfl (Nat.le_of_ble_eq_true rfl) dX10_init_19 (fun H locs hP hD hS => ?_)
  have hP : va_P (dC, dI) vwCl [(a0, .inr (10, [.ref q1, .ref q2, .null])), (q1, .inl (cI, 601, .inl (fun _ => 0))), (q2, .inl (cI, 601, .inl (fun _ => 0)))] H := hP
  have hD : va_D A [(a0, .inr (10, [.ref q1, .ref q2, .null])), (q1, .inl (cI, 601, .inl (fun _ => 0))), (q2, .inl (cI, 601, .inl (fun _ => 0)))] := hD
  refine lv_aload_n hx hb dX10_init_22 rfl (lv_at hl 0 rfl) ?_
  refine lv_sipush (v := 601) hx hb dX10_init_23 (by decide) ?_
  refine z_newa (atype := .long) (t0 := 2) (N' := 601) (a0 := (601, .inr (.inl (fun _ => 0)))) (ty := .long) hx hb (hts (.arrayClass .long) (by decide +kernel)) rfl hK rfl zra_J hP hD hS hA (fun _ => rfl) (by decide) (by decide) (by decide) (Nat.le_of_ble_eq_true rfl) (Nat.le_of_ble_eq_true rfl) dX10_init_26 (fun q3 H hP hD hS => ?_)
  have hP : va_P (dC, dI) vwCl [(a0, .inr (10, [.ref q1, .ref q2, .null])), (q1, .inl (cI, 601, .inl (fun _ => 0))), (q2, .inl (cI, 601, .inl (fun _ => 0))), (q3, .inl (cJ, 601, .inr (.inl (fun _ => 0))))] H := hP
  have hD : va_D A [(a0, .inr (10, [.ref q1, .ref q2, .null])), (q1, .inl (cI, 601, .inl (fun _ => 0))), (q2, .inl (cI, 601, .inl (fun _ => 0))), (q3, .inl (cJ, 601, .inr (.inl (fun _ => 0))))] := hD
  refine W.widen (k := 3) (n := 1803) (Nat.le_of_ble_eq_true rfl) (Nat.le_of_ble_eq_true rfl) ?_
  refine va_putF (D := (dC, dI)) (ci := 10) (v := .ref q3) (ty := .array .long) (C := RX10) (T := TX10) (N := 3) hx hb hts in_n_Tokens_10 tyX10 tyX10_ok nmX10 hown hK hP hD hS 0 rfl rfl 2 (by decide) (hts (.fieldLink RX10 18 "LanternHouse$Tokens" "values" "[J") (by decide +kernel)) (fun _ h9 => h9) rfl hin rfl (by decide +kernel) rfl rfl (Nat.le_of_ble_eq_true rfl) dX10_init_28 (fun H locs hP hD hS => ?_)
  have hP : va_P (dC, dI) vwCl [(a0, .inr (10, [.ref q1, .ref q2, .ref q3])), (q1, .inl (cI, 601, .inl (fun _ => 0))), (q2, .inl (cI, 601, .inl (fun _ => 0))), (q3, .inl (cJ, 601, .inr (.inl (fun _ => 0))))] H := hP
  have hD : va_D A [(a0, .inr (10, [.ref q1, .ref q2, .ref q3])), (q1, .inl (cI, 601, .inl (fun _ => 0))), (q2, .inl (cI, 601, .inl (fun _ => 0))), (q3, .inl (cJ, 601, .inr (.inl (fun _ => 0))))] := hD
  have hP9 : va_P (dC, dI) vwCl [(a0, .inr (10, [.ref q1, .ref q2, .ref q3])), (q1, .inl (cI, 601, .inl (fun _ => 0))), (q2, .inl (cI, 601, .inl (fun _ => 0))), (q3, .inl (cJ, 601, .inr (.inl (fun _ => 0))))] H := hP.sub [0, 1, 2, 3] rfl
  have hD9 : va_D A [(a0, .inr (10, [.ref q1, .ref q2, .ref q3])), (q1, .inl (cI, 601, .inl (fun _ => 0))), (q2, .inl (cI, 601, .inl (fun _ => 0))), (q3, .inl (cJ, 601, .inr (.inl (fun _ => 0))))] := hD.sub [0, 1, 2, 3] (by decide) rfl
  exact W.vret hx hb hr (fun t ht hW => ⟨⟨(), rfl, trivial, ⟨q1, q2, q3, [.ref q1, .ref q2, .ref q3], rfl, rfl, rfl, rfl, by rw [ht]; exact hP9, hD9⟩⟩, hS.F ht⟩) hS.2.2 dX10_init_31

