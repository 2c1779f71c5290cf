abbrev ws_m_hall (cB cI cJ cZ cQ : ClassId) (aM : Nat) (fsaM : List Value) : va_W := [(aM, .inr (12, fsaM))]
set_option maxHeartbeats 4000000 in
set_option maxRecDepth 100000 in
theorem m_hall (l : Launch) (dC : Nat → ClassId) (dI : Nat → Nat → Nat) (cB cI cJ cZ cQ : ClassId) (aM : Nat) (fsaM : List Value) (sz : Nat) (hlaM : fsaM.length = 87) (haM_43 : fsaM[43]? = some (.int 1)) : Met l yX12_hall wsX12_hall ({ frames := 0, cells := 0, slots := 0, locals := 0 } : Room) (zPc [.ref aM] (dC, dI) (zTY cB cI cJ cZ cQ) (ws_m_hall cB cI cJ cZ cQ aM fsaM) sz) (va_Qi (fun (zr : Int32) (_ : Unit) => zr = 1) (fun (_ : Unit) (_ : State) => True) (va_A (ws_m_hall cB cI cJ cZ cQ aM fsaM) sz)) 0 0 (va_A (ws_m_hall cB cI cJ cZ cQ aM fsaM) sz) := by
  refine Met.ofW (cc := cX12_hall) (maxL := 1) (ret := (some .int)) (by decide) rfl ?_
  intro p e s m args below meth c s₁ B hml hv
  obtain ⟨rfl, hsz, hP0, hK, hO, hD0⟩ := hv
  have hx := B.exec
  have hb := B.bytes
  have hr := B.returns
  have hts := atoms_spec (ws := wsX12_hall) B.pre
  have hown : s.vm.findClass RX12 = some m.cls := findClass_of_methodNamed B.named
  have hlocks := B.notSynchronized
  subst hsz
  have hD8 := hD0.self (sz := s.heap.size)
  generalize hAe : va_A (ws_m_hall cB cI cJ cZ cQ aM fsaM) s.heap.size = A at hD8 ⊢
  have hA : ∀ q : Nat, s.heap.size ≤ q → A q := fun q h => by rw [← hAe]; exact Or.inr h
  have hS : va_S A s.heap s.heap [] := va_S.rf
  have hP : va_P (dC, dI) vwCl [(aM, .inr (12, fsaM))] s.heap := hP0
  have hD : va_D A [(aM, .inr (12, fsaM))] := hD8
  have hl := lv_entry ([.ref aM]) (n := 1) (Nat.le_of_ble_eq_true rfl)
  rw [lg_entry_eq]
  generalize (lg_sl ([.ref aM]) ++ List.replicate (1 - (lg_sl ([.ref aM])).length) Slot.unset).toArray = ls at hl ⊢
  have hl : lv_has ls 1 [(0, .ref aM)] := hl
  clear hP0 hD8 hD0
  refine zH0 (fun H hP hS => ?_) hP hS
  refine lv_aload_n hx hb dX12_hall_0 rfl (lv_at hl 0 rfl) ?_
  refine va_get (D := (dC, dI)) (ci := 12) (v := .int 1) (C := RX12) (T := TX12) (N := 87) hx hb hts in_X12_hall_12 hown hK hP 0 rfl rfl 43 (by decide) (hts (.fieldLink RX12 201 "LanternHouseModel" "halls" "I") (by decide +kernel)) (fun _ h9 => h9) haM_43 dX12_hall_1 ?_
  refine lv_bipush (v := 6) hx hb dX12_hall_4 (by decide) ?_
  refine lv_icmp_ne (tgt := 11) hx hb dX12_hall_6 (by decide) (fun _ => ?_) (fun zc => absurd zc (by decide))
  refine lv_aload_n hx hb dX12_hall_11 rfl (lv_at hl 0 rfl) ?_
  refine lv_dup hx hb dX12_hall_12 rfl ?_
  refine va_get (D := (dC, dI)) (ci := 12) (v := .int 1) (C := RX12) (T := TX12) (N := 87) hx hb hts in_X12_hall_12 hown hK hP 0 rfl rfl 43 (by decide) (hts (.fieldLink RX12 201 "LanternHouseModel" "halls" "I") (by decide +kernel)) (fun _ h9 => h9) haM_43 dX12_hall_13 ?_
  refine lv_iconst (v := 1) hx hb dX12_hall_16 (by decide) ?_
  refine lv_iadd hx hb dX12_hall_17 ?_
  refine lv_topi (fun x1 ex1 => ?_)
  obtain rfl : x1 = 2 := ex1.trans (by decide)
  refine va_put (D := (dC, dI)) (ci := 12) (v := .int 2) (ty := .int) (C := RX12) (T := TX12) (N := 87) hx hb hts in_X12_hall_12 tyX12 tyX12_ok nmX12 hown hK hP hD hS 0 rfl rfl 43 (by decide) (hts (.fieldLink RX12 201 "LanternHouseModel" "halls" "I") (by decide +kernel)) (fun _ h9 => h9) rfl (by decide +kernel) rfl rfl (by rw [hlaM]; decide) dX12_hall_18 (fun H locs hP hD hS => ?_)
  have hP : va_P (dC, dI) vwCl [(aM, .inr (12, (List.set fsaM 43 (.int 2))))] H := hP
  have hD : va_D A [(aM, .inr (12, (List.set fsaM 43 (.int 2))))] := hD
  refine lv_aload_n hx hb dX12_hall_21 rfl (lv_at hl 0 rfl) ?_
  refine va_get (D := (dC, dI)) (ci := 12) (v := .int 2) (C := RX12) (T := TX12) (N := 87) hx hb hts in_X12_hall_12 hown hK hP 0 rfl rfl 43 (by decide) (hts (.fieldLink RX12 201 "LanternHouseModel" "halls" "I") (by decide +kernel)) (fun _ h9 => h9) (zset_eq (by rw [hlaM]; decide)) dX12_hall_22 ?_
  refine lv_iconst (v := 1) hx hb dX12_hall_25 (by decide) ?_
  refine lv_isub hx hb dX12_hall_26 ?_
  refine lv_topi (fun x2 ex2 => ?_)
  obtain rfl : x2 = 1 := ex2.trans (by decide)
  exact W.iret (v := 1) hx hb hr (fun t ht hW => ⟨⟨1, (), rfl, rfl, trivial⟩, hS.F ht⟩) hS.2.2 dX12_hall_27

