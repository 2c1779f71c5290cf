def zs_m_put0 : List Cond := .code yX12_put cX12_put 3 none :: (([.fieldLink RX12 13 "LanternHouseModel" "tape" "[B", .fieldLink RX12 204 "LanternHouseModel" "taped" "I"] : List Cond) ++ (wsX120 ++ []))
theorem gd_m_put0 : (zs_m_put0).all goodWord = true := by decide +kernel
theorem in_m_put0_12 : ∀ w ∈ wsX120, w ∈ zs_m_put0 := fun w h => List.mem_cons_of_mem _ (List.mem_append_right _ (List.mem_append_left _ h))
abbrev ws_m_put0 (cB cI cJ cZ cQ : ClassId) (aM qB : Nat) (iW : Int32) (fB : Nat → Int32) (fsaM : List Value) : va_W := [(aM, .inr (12, fsaM)), (qB, .inl (cB, 3000, .inl fB))]
set_option maxHeartbeats 4000000 in
set_option maxRecDepth 100000 in
theorem m_put0 (l : Launch) (dC : Nat → ClassId) (dI : Nat → Nat → Nat) (cB cI cJ cZ cQ : ClassId) (aM qB : Nat) (iW : Int32) (fB : Nat → Int32) (fsaM : List Value) (sz : Nat) (hlaM : fsaM.length = 87) (haM_1 : fsaM[1]? = some (.ref qB)) (haM_2 : fsaM[2]? = some (.int 0)) : Met l yX12_put zs_m_put0 ({ frames := 0, cells := 0, slots := 0, locals := 0 } : Room) (zPc [.ref aM, .int iW] (dC, dI) (zTY cB cI cJ cZ cQ) (ws_m_put0 cB cI cJ cZ cQ aM qB iW fB fsaM) sz) (va_Qv (fun (_ : Unit) => True) (fun (_ : Unit) (t : State) => ∃ (fB2 : Nat → Int32), ∃ (gsaM : List Value), gsaM.length = 87 ∧ (∀ j : Nat, ¬ j ∈ ([2] : List Nat) → gsaM[j]? = fsaM[j]?) ∧ gsaM[2]? = some (.int 4) ∧ va_P (dC, dI) vwCl [(aM, .inr (12, gsaM)), (qB, .inl (cB, 3000, .inl fB2))] t.heap ∧ va_D (va_A (ws_m_put0 cB cI cJ cZ cQ aM qB iW fB fsaM) sz) [(aM, .inr (12, gsaM)), (qB, .inl (cB, 3000, .inl fB2))]) (va_A (ws_m_put0 cB cI cJ cZ cQ aM qB iW fB fsaM) sz)) 0 0 (va_A (ws_m_put0 cB cI cJ cZ cQ aM qB iW fB fsaM) sz) := by
  refine Met.ofW (cc := cX12_put) (maxL := 3) (ret := none) (by decide) rfl ?_
  intro p e s m args below meth c s₁ B hml hv
  obtain ⟨rfl, hsz, hP0, hK, hO, hD0⟩ := hv
  have hx := B.exec
  have hb := B.bytes
  have hr := B.returns
  have hts := atoms_spec (ws := zs_m_put0) B.pre
  have hown : s.vm.findClass RX12 = some m.cls := findClass_of_methodNamed B.named
  have hlocks := B.notSynchronized
  subst hsz
  have hD8 := hD0.self (sz := s.heap.size)
  generalize hAe : va_A (ws_m_put0 cB cI cJ cZ cQ aM qB iW fB fsaM) s.heap.size = A at hD8 ⊢
  have hA : ∀ q : Nat, s.heap.size ≤ q → A q := fun q h => by rw [← hAe]; exact Or.inr h
  have hS : va_S A s.heap s.heap [] := va_S.rf
  have hP : va_P (dC, dI) vwCl [(aM, .inr (12, fsaM)), (qB, .inl (cB, 3000, .inl fB))] s.heap := hP0
  have hD : va_D A [(aM, .inr (12, fsaM)), (qB, .inl (cB, 3000, .inl fB))] := hD8
  have hl := lv_entry ([.ref aM, .int iW]) (n := 3) (Nat.le_of_ble_eq_true rfl)
  rw [lg_entry_eq]
  generalize (lg_sl ([.ref aM, .int iW]) ++ List.replicate (3 - (lg_sl ([.ref aM, .int iW])).length) Slot.unset).toArray = ls at hl ⊢
  have hl : lv_has ls 3 [(0, .ref aM), (1, .int iW)] := hl
  clear hP0 hD8 hD0
  refine zH0 (fun H hP hS => ?_) hP hS
  refine lv_bipush (v := 24) hx hb dX12_put_0 (by decide) ?_
  refine lv_istore_n (lv' := [(2, .int 24), (0, .ref aM), (1, .int iW)]) hx hb dX12_put_2 rfl hl (by decide) rfl (fun ls hl => ?_)
  refine lv_iload_n hx hb dX12_put_3 rfl (lv_at hl 0 rfl) ?_
  refine lv_if_lt (tgt := 36) hx hb dX12_put_4 (by decide) (fun zc => absurd zc (by decide)) (fun _ => ?_)
  refine lv_aload_n hx hb dX12_put_7 rfl (lv_at hl 1 rfl) ?_
  refine va_get (D := (dC, dI)) (ci := 12) (v := .ref qB) (C := RX12) (T := TX12) (N := 87) hx hb hts in_m_put0_12 hown hK hP 0 rfl rfl 1 (by decide) (hts (.fieldLink RX12 13 "LanternHouseModel" "tape" "[B") (by decide +kernel)) (fun _ h9 => h9) haM_1 dX12_put_8 ?_
  refine lv_aload_n hx hb dX12_put_11 rfl (lv_at hl 1 rfl) ?_
  refine va_get (D := (dC, dI)) (ci := 12) (v := .int 0) (C := RX12) (T := TX12) (N := 87) hx hb hts in_m_put0_12 hown hK hP 0 rfl rfl 2 (by decide) (hts (.fieldLink RX12 204 "LanternHouseModel" "taped" "I") (by decide +kernel)) (fun _ h9 => h9) haM_2 dX12_put_12 ?_
  refine lv_iload_n hx hb dX12_put_15 rfl (lv_at hl 2 rfl) ?_
  refine lv_iload_n hx hb dX12_put_16 rfl (lv_at hl 0 rfl) ?_
  refine lv_ishr hx hb dX12_put_17 ?_
  refine lv_topi (fun x1 ex1 => ?_)
  refine lv_i2b hx hb dX12_put_18 rfl ?_
  refine lv_topi (fun x2 ex2 => ?_)
  refine z_bast hx hb hK hP hD hS 1 0 rfl rfl (show ¬ ((0 : Int32) < 0 ∨ 3000 ≤ (0 : Int32).toNatClampNeg) from by decide) dX12_put_19 (fun H locs g3 hg3 hP hD hS => ?_)
  have hP : va_P (dC, dI) vwCl [(aM, .inr (12, fsaM)), (qB, .inl (cB, 3000, .inl g3))] H := hP
  have hD : va_D A [(aM, .inr (12, fsaM)), (qB, .inl (cB, 3000, .inl g3))] := hD
  refine lv_aload_n hx hb dX12_put_20 rfl (lv_at hl 1 rfl) ?_
  refine lv_dup hx hb dX12_put_21 rfl ?_
  refine va_get (D := (dC, dI)) (ci := 12) (v := .int 0) (C := RX12) (T := TX12) (N := 87) hx hb hts in_m_put0_12 hown hK hP 0 rfl rfl 2 (by decide) (hts (.fieldLink RX12 204 "LanternHouseModel" "taped" "I") (by decide +kernel)) (fun _ h9 => h9) haM_2 dX12_put_22 ?_
  refine lv_iconst (v := 1) hx hb dX12_put_25 (by decide) ?_
  refine lv_iadd hx hb dX12_put_26 ?_
  refine lv_topi (fun x4 ex4 => ?_)
  obtain rfl : x4 = 1 := ex4.trans (by decide)
  refine va_put (D := (dC, dI)) (ci := 12) (v := .int 1) (ty := .int) (C := RX12) (T := TX12) (N := 87) hx hb hts in_m_put0_12 tyX12 tyX12_ok nmX12 hown hK hP hD hS 0 rfl rfl 2 (by decide) (hts (.fieldLink RX12 204 "LanternHouseModel" "taped" "I") (by decide +kernel)) (fun _ h9 => h9) rfl (by decide +kernel) rfl rfl (by rw [hlaM]; decide) dX12_put_27 (fun H locs hP hD hS => ?_)
  have hP : va_P (dC, dI) vwCl [(aM, .inr (12, (List.set fsaM 2 (.int 1)))), (qB, .inl (cB, 3000, .inl g3))] H := hP
  have hD : va_D A [(aM, .inr (12, (List.set fsaM 2 (.int 1)))), (qB, .inl (cB, 3000, .inl g3))] := hD
  refine lv_iinc (v := 16) (lv' := [(2, .int 16), (0, .ref aM), (1, .int iW)]) hx hb dX12_put_30 hl (k := 0) rfl (by decide) (by decide) rfl (fun ls hl => ?_)
  refine lv_goto (tgt := 3) hx hb dX12_put_33 (by decide) ?_
  refine lv_iload_n hx hb dX12_put_3 rfl (lv_at hl 0 rfl) ?_
  refine lv_if_lt (tgt := 36) hx hb dX12_put_4 (by decide) (fun zc => absurd zc (by decide)) (fun _ => ?_)
  refine lv_aload_n hx hb dX12_put_7 rfl (lv_at hl 1 rfl) ?_
  refine va_get (D := (dC, dI)) (ci := 12) (v := .ref qB) (C := RX12) (T := TX12) (N := 87) hx hb hts in_m_put0_12 hown hK hP 0 rfl rfl 1 (by decide) (hts (.fieldLink RX12 13 "LanternHouseModel" "tape" "[B") (by decide +kernel)) (fun _ h9 => h9) (zset_ne (by decide) haM_1) dX12_put_8 ?_
  refine lv_aload_n hx hb dX12_put_11 rfl (lv_at hl 1 rfl) ?_
  refine va_get (D := (dC, dI)) (ci := 12) (v := .int 1) (C := RX12) (T := TX12) (N := 87) hx hb hts in_m_put0_12 hown hK hP 0 rfl rfl 2 (by decide) (hts (.fieldLink RX12 204 "LanternHouseModel" "taped" "I") (by decide +kernel)) (fun _ h9 => h9) (zset_eq (by rw [hlaM]; decide)) dX12_put_12 ?_
  refine lv_iload_n hx hb dX12_put_15 rfl (lv_at hl 2 rfl) ?_
  refine lv_iload_n hx hb dX12_put_16 rfl (lv_at hl 0 rfl) ?_
  refine lv_ishr hx hb dX12_put_17 ?_
  refine lv_topi (fun x5 ex5 => ?_)
  refine lv_i2b hx hb dX12_put_18 rfl ?_
  refine lv_topi (fun x6 ex6 => ?_)
  refine z_bast hx hb hK hP hD hS 1 0 rfl rfl (show ¬ ((1 : Int32) < 0 ∨ 3000 ≤ (1 : Int32).toNatClampNeg) from by decide) dX12_put_19 (fun H locs g7 hg7 hP hD hS => ?_)
  have hP : va_P (dC, dI) vwCl [(aM, .inr (12, (List.set fsaM 2 (.int 1)))), (qB, .inl (cB, 3000, .inl g7))] H := hP
  have hD : va_D A [(aM, .inr (12, (List.set fsaM 2 (.int 1)))), (qB, .inl (cB, 3000, .inl g7))] := hD
  refine lv_aload_n hx hb dX12_put_20 rfl (lv_at hl 1 rfl) ?_
  refine lv_dup hx hb dX12_put_21 rfl ?_
  refine va_get (D := (dC, dI)) (ci := 12) (v := .int 1) (C := RX12) (T := TX12) (N := 87) hx hb hts in_m_put0_12 hown hK hP 0 rfl rfl 2 (by decide) (hts (.fieldLink RX12 204 "LanternHouseModel" "taped" "I") (by decide +kernel)) (fun _ h9 => h9) (zset_eq (by rw [hlaM]; decide)) dX12_put_22 ?_
  refine lv_iconst (v := 1) hx hb dX12_put_25 (by decide) ?_
  refine lv_iadd hx hb dX12_put_26 ?_
  refine lv_topi (fun x8 ex8 => ?_)
  obtain rfl : x8 = 2 := ex8.trans (by decide)
  refine va_put (D := (dC, dI)) (ci := 12) (v := .int 2) (ty := .int) (C := RX12) (T := TX12) (N := 87) hx hb hts in_m_put0_12 tyX12 tyX12_ok nmX12 hown hK hP hD hS 0 rfl rfl 2 (by decide) (hts (.fieldLink RX12 204 "LanternHouseModel" "taped" "I") (by decide +kernel)) (fun _ h9 => h9) rfl (by decide +kernel) rfl rfl (by rw [(zset_len hlaM)]; decide) dX12_put_27 (fun H locs hP hD hS => ?_)
  have hP : va_P (dC, dI) vwCl [(aM, .inr (12, (List.set (List.set fsaM 2 (.int 1)) 2 (.int 2)))), (qB, .inl (cB, 3000, .inl g7))] H := hP
  have hD : va_D A [(aM, .inr (12, (List.set (List.set fsaM 2 (.int 1)) 2 (.int 2)))), (qB, .inl (cB, 3000, .inl g7))] := hD
  refine lv_iinc (v := 8) (lv' := [(2, .int 8), (0, .ref aM), (1, .int iW)]) hx hb dX12_put_30 hl (k := 0) rfl (by decide) (by decide) rfl (fun ls hl => ?_)
  refine lv_goto (tgt := 3) hx hb dX12_put_33 (by decide) ?_
  refine lv_iload_n hx hb dX12_put_3 rfl (lv_at hl 0 rfl) ?_
  refine lv_if_lt (tgt := 36) hx hb dX12_put_4 (by decide) (fun zc => absurd zc (by decide)) (fun _ => ?_)
  refine lv_aload_n hx hb dX12_put_7 rfl (lv_at hl 1 rfl) ?_
  refine va_get (D := (dC, dI)) (ci := 12) (v := .ref qB) (C := RX12) (T := TX12) (N := 87) hx hb hts in_m_put0_12 hown hK hP 0 rfl rfl 1 (by decide) (hts (.fieldLink RX12 13 "LanternHouseModel" "tape" "[B") (by decide +kernel)) (fun _ h9 => h9) (zset_ne (by decide) (zset_ne (by decide) haM_1)) dX12_put_8 ?_
  refine lv_aload_n hx hb dX12_put_11 rfl (lv_at hl 1 rfl) ?_
  refine va_get (D := (dC, dI)) (ci := 12) (v := .int 2) (C := RX12) (T := TX12) (N := 87) hx hb hts in_m_put0_12 hown hK hP 0 rfl rfl 2 (by decide) (hts (.fieldLink RX12 204 "LanternHouseModel" "taped" "I") (by decide +kernel)) (fun _ h9 => h9) (zset_eq (by rw [(zset_len hlaM)]; decide)) dX12_put_12 ?_
  refine lv_iload_n hx hb dX12_put_15 rfl (lv_at hl 2 rfl) ?_
  refine lv_iload_n hx hb dX12_put_16 rfl (lv_at hl 0 rfl) ?_
  refine lv_ishr hx hb dX12_put_17 ?_
  refine lv_topi (fun x9 ex9 => ?_)
  refine lv_i2b hx hb dX12_put_18 rfl ?_
  refine lv_topi (fun x10 ex10 => ?_)
  refine z_bast hx hb hK hP hD hS 1 0 rfl rfl (show ¬ ((2 : Int32) < 0 ∨ 3000 ≤ (2 : Int32).toNatClampNeg) from by decide) dX12_put_19 (fun H locs g11 hg11 hP hD hS => ?_)
  have hP : va_P (dC, dI) vwCl [(aM, .inr (12, (List.set (List.set fsaM 2 (.int 1)) 2 (.int 2)))), (qB, .inl (cB, 3000, .inl g11))] H := hP
  have hD : va_D A [(aM, .inr (12, (List.set (List.set fsaM 2 (.int 1)) 2 (.int 2)))), (qB, .inl (cB, 3000, .inl g11))] := hD
  refine lv_aload_n hx hb dX12_put_20 rfl (lv_at hl 1 rfl) ?_
  refine lv_dup hx hb dX12_put_21 rfl ?_
  refine va_get (D := (dC, dI)) (ci := 12) (v := .int 2) (C := RX12) (T := TX12) (N := 87) hx hb hts in_m_put0_12 hown hK hP 0 rfl rfl 2 (by decide) (hts (.fieldLink RX12 204 "LanternHouseModel" "taped" "I") (by decide +kernel)) (fun _ h9 => h9) (zset_eq (by rw [(zset_len hlaM)]; decide)) dX12_put_22 ?_
  refine lv_iconst (v := 1) hx hb dX12_put_25 (by decide) ?_
  refine lv_iadd hx hb dX12_put_26 ?_
  refine lv_topi (fun x12 ex12 => ?_)
  obtain rfl : x12 = 3 := ex12.trans (by decide)
  refine va_put (D := (dC, dI)) (ci := 12) (v := .int 3) (ty := .int) (C := RX12) (T := TX12) (N := 87) hx hb hts in_m_put0_12 tyX12 tyX12_ok nmX12 hown hK hP hD hS 0 rfl rfl 2 (by decide) (hts (.fieldLink RX12 204 "LanternHouseModel" "taped" "I") (by decide +kernel)) (fun _ h9 => h9) rfl (by decide +kernel) rfl rfl (by rw [(zset_len (zset_len hlaM))]; decide) dX12_put_27 (fun H locs hP hD hS => ?_)
  have hP : va_P (dC, dI) vwCl [(aM, .inr (12, (List.set (List.set (List.set fsaM 2 (.int 1)) 2 (.int 2)) 2 (.int 3)))), (qB, .inl (cB, 3000, .inl g11))] H := hP
  have hD : va_D A [(aM, .inr (12, (List.set (List.set (List.set fsaM 2 (.int 1)) 2 (.int 2)) 2 (.int 3)))), (qB, .inl (cB, 3000, .inl g11))] := hD
  refine lv_iinc (v := 0) (lv' := [(2, .int 0), (0, .ref aM), (1, .int iW)]) hx hb dX12_put_30 hl (k := 0) rfl (by decide) (by decide) rfl (fun ls hl => ?_)
  refine lv_goto (tgt := 3) hx hb dX12_put_33 (by decide) ?_
  refine lv_iload_n hx hb dX12_put_3 rfl (lv_at hl 0 rfl) ?_
  refine lv_if_lt (tgt := 36) hx hb dX12_put_4 (by decide) (fun zc => absurd zc (by decide)) (fun _ => ?_)
  refine lv_aload_n hx hb dX12_put_7 rfl (lv_at hl 1 rfl) ?_
  refine va_get (D := (dC, dI)) (ci := 12) (v := .ref qB) (C := RX12) (T := TX12) (N := 87) hx hb hts in_m_put0_12 hown hK hP 0 rfl rfl 1 (by decide) (hts (.fieldLink RX12 13 "LanternHouseModel" "tape" "[B") (by decide +kernel)) (fun _ h9 => h9) (zset_ne (by decide) (zset_ne (by decide) (zset_ne (by decide) haM_1))) dX12_put_8 ?_
  refine lv_aload_n hx hb dX12_put_11 rfl (lv_at hl 1 rfl) ?_
  refine va_get (D := (dC, dI)) (ci := 12) (v := .int 3) (C := RX12) (T := TX12) (N := 87) hx hb hts in_m_put0_12 hown hK hP 0 rfl rfl 2 (by decide) (hts (.fieldLink RX12 204 "LanternHouseModel" "taped" "I") (by decide +kernel)) (fun _ h9 => h9) (zset_eq (by rw [(zset_len (zset_len hlaM))]; decide)) dX12_put_12 ?_
  refine lv_iload_n hx hb dX12_put_15 rfl (lv_at hl 2 rfl) ?_
  refine lv_iload_n hx hb dX12_put_16 rfl (lv_at hl 0 rfl) ?_
  refine lv_ishr hx hb dX12_put_17 ?_
  refine lv_topi (fun x13 ex13 => ?_)
  refine lv_i2b hx hb dX12_put_18 rfl ?_
  refine lv_topi (fun x14 ex14 => ?_)
  refine z_bast hx hb hK hP hD hS 1 0 rfl rfl (show ¬ ((3 : Int32) < 0 ∨ 3000 ≤ (3 : Int32).toNatClampNeg) from by decide) dX12_put_19 (fun H locs g15 hg15 hP hD hS => ?_)
  have hP : va_P (dC, dI) vwCl [(aM, .inr (12, (List.set (List.set (List.set fsaM 2 (.int 1)) 2 (.int 2)) 2 (.int 3)))), (qB, .inl (cB, 3000, .inl g15))] H := hP
  have hD : va_D A [(aM, .inr (12, (List.set (List.set (List.set fsaM 2 (.int 1)) 2 (.int 2)) 2 (.int 3)))), (qB, .inl (cB, 3000, .inl g15))] := hD
  refine lv_aload_n hx hb dX12_put_20 rfl (lv_at hl 1 rfl) ?_
  refine lv_dup hx hb dX12_put_21 rfl ?_
  refine va_get (D := (dC, dI)) (ci := 12) (v := .int 3) (C := RX12) (T := TX12) (N := 87) hx hb hts in_m_put0_12 hown hK hP 0 rfl rfl 2 (by decide) (hts (.fieldLink RX12 204 "LanternHouseModel" "taped" "I") (by decide +kernel)) (fun _ h9 => h9) (zset_eq (by rw [(zset_len (zset_len hlaM))]; decide)) dX12_put_22 ?_
  refine lv_iconst (v := 1) hx hb dX12_put_25 (by decide) ?_
  refine lv_iadd hx hb dX12_put_26 ?_
  refine lv_topi (fun x16 ex16 => ?_)
  obtain rfl : x16 = 4 := ex16.trans (by decide)
  refine va_put (D := (dC, dI)) (ci := 12) (v := .int 4) (ty := .int) (C := RX12) (T := TX12) (N := 87) hx hb hts in_m_put0_12 tyX12 tyX12_ok nmX12 hown hK hP hD hS 0 rfl rfl 2 (by decide) (hts (.fieldLink RX12 204 "LanternHouseModel" "taped" "I") (by decide +kernel)) (fun _ h9 => h9) rfl (by decide +kernel) rfl rfl (by rw [(zset_len (zset_len (zset_len hlaM)))]; decide) dX12_put_27 (fun H locs hP hD hS => ?_)
  have hP : va_P (dC, dI) vwCl [(aM, .inr (12, (List.set (List.set (List.set (List.set fsaM 2 (.int 1)) 2 (.int 2)) 2 (.int 3)) 2 (.int 4)))), (qB, .inl (cB, 3000, .inl g15))] H := hP
  have hD : va_D A [(aM, .inr (12, (List.set (List.set (List.set (List.set fsaM 2 (.int 1)) 2 (.int 2)) 2 (.int 3)) 2 (.int 4)))), (qB, .inl (cB, 3000, .inl g15))] := hD
  refine lv_iinc (v := (-8)) (lv' := [(2, .int (-8)), (0, .ref aM), (1, .int iW)]) hx hb dX12_put_30 hl (k := 0) rfl (by decide) (by decide) rfl (fun ls hl => ?_)
  refine lv_goto (tgt := 3) hx hb dX12_put_33 (by decide) ?_
  refine lv_iload_n hx hb dX12_put_3 rfl (lv_at hl 0 rfl) ?_
  refine lv_if_lt (tgt := 36) hx hb dX12_put_4 (by decide) (fun _ => ?_) (fun zc => absurd zc (by decide))
  have hP9 : va_P (dC, dI) vwCl [(aM, .inr (12, (List.set (List.set (List.set (List.set fsaM 2 (.int 1)) 2 (.int 2)) 2 (.int 3)) 2 (.int 4)))), (qB, .inl (cB, 3000, .inl g15))] H := hP.sub [0, 1] rfl
  have hD9 : va_D A [(aM, .inr (12, (List.set (List.set (List.set (List.set fsaM 2 (.int 1)) 2 (.int 2)) 2 (.int 3)) 2 (.int 4)))), (qB, .inl (cB, 3000, .inl g15))] := hD.sub [0, 1] (by decide) rfl
  exact W.vret hx hb hr (fun t ht hW => ⟨⟨(), rfl, trivial, ⟨g15, (List.set (List.set (List.set (List.set fsaM 2 (.int 1)) 2 (.int 2)) 2 (.int 3)) 2 (.int 4)), (zset_len (zset_len (zset_len (zset_len hlaM)))), (fun j hj => ((zfr (by decide) hj).trans ((zfr (by decide) hj).trans ((zfr (by decide) hj).trans ((zfr (by decide) hj).trans rfl))))), (zset_eq (by rw [(zset_len (zset_len (zset_len hlaM)))]; decide)), by rw [ht]; exact hP9, hD9⟩⟩, hS.F ht⟩) hS.2.2 dX12_put_36

def zs_m_put4 : List Cond := .code yX12_put cX12_put 3 none :: (([.fieldLink RX12 13 "LanternHouseModel" "tape" "[B", .fieldLink RX12 204 "LanternHouseModel" "taped" "I"] : List Cond) ++ (wsX120 ++ []))
theorem gd_m_put4 : (zs_m_put4).all goodWord = true := by decide +kernel
theorem in_m_put4_12 : ∀ w ∈ wsX120, w ∈ zs_m_put4 := fun w h => List.mem_cons_of_mem _ (List.mem_append_right _ (List.mem_append_left _ h))
abbrev ws_m_put4 (cB cI cJ cZ cQ : ClassId) (aM qB : Nat) (iW : Int32) (fB : Nat → Int32) (fsaM : List Value) : va_W := [(aM, .inr (12, fsaM)), (qB, .inl (cB, 3000, .inl fB))]
set_option maxHeartbeats 4000000 in
set_option maxRecDepth 100000 in
theorem m_put4 (l : Launch) (dC : Nat → ClassId) (dI : Nat → Nat → Nat) (cB cI cJ cZ cQ : ClassId) (aM qB : Nat) (iW : Int32) (fB : Nat → Int32) (fsaM : List Value) (sz : Nat) (hlaM : fsaM.length = 87) (haM_1 : fsaM[1]? = some (.ref qB)) (haM_2 : fsaM[2]? = some (.int 4)) : Met l yX12_put zs_m_put4 ({ frames := 0, cells := 0, slots := 0, locals := 0 } : Room) (zPc [.ref aM, .int iW] (dC, dI) (zTY cB cI cJ cZ cQ) (ws_m_put4 cB cI cJ cZ cQ aM qB iW fB fsaM) sz) (va_Qv (fun (_ : Unit) => True) (fun (_ : Unit) (t : State) => ∃ (fB2 : Nat → Int32), ∃ (gsaM : List Value), gsaM.length = 87 ∧ (∀ j : Nat, ¬ j ∈ ([2] : List Nat) → gsaM[j]? = fsaM[j]?) ∧ gsaM[2]? = some (.int 8) ∧ va_P (dC, dI) vwCl [(aM, .inr (12, gsaM)), (qB, .inl (cB, 3000, .inl fB2))] t.heap ∧ va_D (va_A (ws_m_put4 cB cI cJ cZ cQ aM qB iW fB fsaM) sz) [(aM, .inr (12, gsaM)), (qB, .inl (cB, 3000, .inl fB2))]) (va_A (ws_m_put4 cB cI cJ cZ cQ aM qB iW fB fsaM) sz)) 0 0 (va_A (ws_m_put4 cB cI cJ cZ cQ aM qB iW fB fsaM) sz) := by
  refine Met.ofW (cc := cX12_put) (maxL := 3) (ret := none) (by decide) rfl ?_
  intro p e s m args below meth c s₁ B hml hv
  obtain ⟨rfl, hsz, hP0, hK, hO, hD0⟩ := hv
  have hx := B.exec
  have hb := B.bytes
  have hr := B.returns
  have hts := atoms_spec (ws := zs_m_put4) B.pre
  have hown : s.vm.findClass RX12 = some m.cls := findClass_of_methodNamed B.named
  have hlocks := B.notSynchronized
  subst hsz
  have hD8 := hD0.self (sz := s.heap.size)
  generalize hAe : va_A (ws_m_put4 cB cI cJ cZ cQ aM qB iW fB fsaM) s.heap.size = A at hD8 ⊢
  have hA : ∀ q : Nat, s.heap.size ≤ q → A q := fun q h => by rw [← hAe]; exact Or.inr h
  have hS : va_S A s.heap s.heap [] := va_S.rf
  have hP : va_P (dC, dI) vwCl [(aM, .inr (12, fsaM)), (qB, .inl (cB, 3000, .inl fB))] s.heap := hP0
  have hD : va_D A [(aM, .inr (12, fsaM)), (qB, .inl (cB, 3000, .inl fB))] := hD8
  have hl := lv_entry ([.ref aM, .int iW]) (n := 3) (Nat.le_of_ble_eq_true rfl)
  rw [lg_entry_eq]
  generalize (lg_sl ([.ref aM, .int iW]) ++ List.replicate (3 - (lg_sl ([.ref aM, .int iW])).length) Slot.unset).toArray = ls at hl ⊢
  have hl : lv_has ls 3 [(0, .ref aM), (1, .int iW)] := hl
  clear hP0 hD8 hD0
  refine zH0 (fun H hP hS => ?_) hP hS
  refine lv_bipush (v := 24) hx hb dX12_put_0 (by decide) ?_
  refine lv_istore_n (lv' := [(2, .int 24), (0, .ref aM), (1, .int iW)]) hx hb dX12_put_2 rfl hl (by decide) rfl (fun ls hl => ?_)
  refine lv_iload_n hx hb dX12_put_3 rfl (lv_at hl 0 rfl) ?_
  refine lv_if_lt (tgt := 36) hx hb dX12_put_4 (by decide) (fun zc => absurd zc (by decide)) (fun _ => ?_)
  refine lv_aload_n hx hb dX12_put_7 rfl (lv_at hl 1 rfl) ?_
  refine va_get (D := (dC, dI)) (ci := 12) (v := .ref qB) (C := RX12) (T := TX12) (N := 87) hx hb hts in_m_put4_12 hown hK hP 0 rfl rfl 1 (by decide) (hts (.fieldLink RX12 13 "LanternHouseModel" "tape" "[B") (by decide +kernel)) (fun _ h9 => h9) haM_1 dX12_put_8 ?_
  refine lv_aload_n hx hb dX12_put_11 rfl (lv_at hl 1 rfl) ?_
  refine va_get (D := (dC, dI)) (ci := 12) (v := .int 4) (C := RX12) (T := TX12) (N := 87) hx hb hts in_m_put4_12 hown hK hP 0 rfl rfl 2 (by decide) (hts (.fieldLink RX12 204 "LanternHouseModel" "taped" "I") (by decide +kernel)) (fun _ h9 => h9) haM_2 dX12_put_12 ?_
  refine lv_iload_n hx hb dX12_put_15 rfl (lv_at hl 2 rfl) ?_
  refine lv_iload_n hx hb dX12_put_16 rfl (lv_at hl 0 rfl) ?_
  refine lv_ishr hx hb dX12_put_17 ?_
  refine lv_topi (fun x1 ex1 => ?_)
  refine lv_i2b hx hb dX12_put_18 rfl ?_
  refine lv_topi (fun x2 ex2 => ?_)
  refine z_bast hx hb hK hP hD hS 1 0 rfl rfl (show ¬ ((4 : Int32) < 0 ∨ 3000 ≤ (4 : Int32).toNatClampNeg) from by decide) dX12_put_19 (fun H locs g3 hg3 hP hD hS => ?_)
  have hP : va_P (dC, dI) vwCl [(aM, .inr (12, fsaM)), (qB, .inl (cB, 3000, .inl g3))] H := hP
  have hD : va_D A [(aM, .inr (12, fsaM)), (qB, .inl (cB, 3000, .inl g3))] := hD
  refine lv_aload_n hx hb dX12_put_20 rfl (lv_at hl 1 rfl) ?_
  refine lv_dup hx hb dX12_put_21 rfl ?_
  refine va_get (D := (dC, dI)) (ci := 12) (v := .int 4) (C := RX12) (T := TX12) (N := 87) hx hb hts in_m_put4_12 hown hK hP 0 rfl rfl 2 (by decide) (hts (.fieldLink RX12 204 "LanternHouseModel" "taped" "I") (by decide +kernel)) (fun _ h9 => h9) haM_2 dX12_put_22 ?_
  refine lv_iconst (v := 1) hx hb dX12_put_25 (by decide) ?_
  refine lv_iadd hx hb dX12_put_26 ?_
  refine lv_topi (fun x4 ex4 => ?_)
  obtain rfl : x4 = 5 := ex4.trans (by decide)
  refine va_put (D := (dC, dI)) (ci := 12) (v := .int 5) (ty := .int) (C := RX12) (T := TX12) (N := 87) hx hb hts in_m_put4_12 tyX12 tyX12_ok nmX12 hown hK hP hD hS 0 rfl rfl 2 (by decide) (hts (.fieldLink RX12 204 "LanternHouseModel" "taped" "I") (by decide +kernel)) (fun _ h9 => h9) rfl (by decide +kernel) rfl rfl (by rw [hlaM]; decide) dX12_put_27 (fun H locs hP hD hS => ?_)
  have hP : va_P (dC, dI) vwCl [(aM, .inr (12, (List.set fsaM 2 (.int 5)))), (qB, .inl (cB, 3000, .inl g3))] H := hP
  have hD : va_D A [(aM, .inr (12, (List.set fsaM 2 (.int 5)))), (qB, .inl (cB, 3000, .inl g3))] := hD
  refine lv_iinc (v := 16) (lv' := [(2, .int 16), (0, .ref aM), (1, .int iW)]) hx hb dX12_put_30 hl (k := 0) rfl (by decide) (by decide) rfl (fun ls hl => ?_)
  refine lv_goto (tgt := 3) hx hb dX12_put_33 (by decide) ?_
  refine lv_iload_n hx hb dX12_put_3 rfl (lv_at hl 0 rfl) ?_
  refine lv_if_lt (tgt := 36) hx hb dX12_put_4 (by decide) (fun zc => absurd zc (by decide)) (fun _ => ?_)
  refine lv_aload_n hx hb dX12_put_7 rfl (lv_at hl 1 rfl) ?_
  refine va_get (D := (dC, dI)) (ci := 12) (v := .ref qB) (C := RX12) (T := TX12) (N := 87) hx hb hts in_m_put4_12 hown hK hP 0 rfl rfl 1 (by decide) (hts (.fieldLink RX12 13 "LanternHouseModel" "tape" "[B") (by decide +kernel)) (fun _ h9 => h9) (zset_ne (by decide) haM_1) dX12_put_8 ?_
  refine lv_aload_n hx hb dX12_put_11 rfl (lv_at hl 1 rfl) ?_
  refine va_get (D := (dC, dI)) (ci := 12) (v := .int 5) (C := RX12) (T := TX12) (N := 87) hx hb hts in_m_put4_12 hown hK hP 0 rfl rfl 2 (by decide) (hts (.fieldLink RX12 204 "LanternHouseModel" "taped" "I") (by decide +kernel)) (fun _ h9 => h9) (zset_eq (by rw [hlaM]; decide)) dX12_put_12 ?_
  refine lv_iload_n hx hb dX12_put_15 rfl (lv_at hl 2 rfl) ?_
  refine lv_iload_n hx hb dX12_put_16 rfl (lv_at hl 0 rfl) ?_
  refine lv_ishr hx hb dX12_put_17 ?_
  refine lv_topi (fun x5 ex5 => ?_)
  refine lv_i2b hx hb dX12_put_18 rfl ?_
  refine lv_topi (fun x6 ex6 => ?_)
  refine z_bast hx hb hK hP hD hS 1 0 rfl rfl (show ¬ ((5 : Int32) < 0 ∨ 3000 ≤ (5 : Int32).toNatClampNeg) from by decide) dX12_put_19 (fun H locs g7 hg7 hP hD hS => ?_)
  have hP : va_P (dC, dI) vwCl [(aM, .inr (12, (List.set fsaM 2 (.int 5)))), (qB, .inl (cB, 3000, .inl g7))] H := hP
  have hD : va_D A [(aM, .inr (12, (List.set fsaM 2 (.int 5)))), (qB, .inl (cB, 3000, .inl g7))] := hD
  refine lv_aload_n hx hb dX12_put_20 rfl (lv_at hl 1 rfl) ?_
  refine lv_dup hx hb dX12_put_21 rfl ?_
  refine va_get (D := (dC, dI)) (ci := 12) (v := .int 5) (C := RX12) (T := TX12) (N := 87) hx hb hts in_m_put4_12 hown hK hP 0 rfl rfl 2 (by decide) (hts (.fieldLink RX12 204 "LanternHouseModel" "taped" "I") (by decide +kernel)) (fun _ h9 => h9) (zset_eq (by rw [hlaM]; decide)) dX12_put_22 ?_
  refine lv_iconst (v := 1) hx hb dX12_put_25 (by decide) ?_
  refine lv_iadd hx hb dX12_put_26 ?_
  refine lv_topi (fun x8 ex8 => ?_)
  obtain rfl : x8 = 6 := ex8.trans (by decide)
  refine va_put (D := (dC, dI)) (ci := 12) (v := .int 6) (ty := .int) (C := RX12) (T := TX12) (N := 87) hx hb hts in_m_put4_12 tyX12 tyX12_ok nmX12 hown hK hP hD hS 0 rfl rfl 2 (by decide) (hts (.fieldLink RX12 204 "LanternHouseModel" "taped" "I") (by decide +kernel)) (fun _ h9 => h9) rfl (by decide +kernel) rfl rfl (by rw [(zset_len hlaM)]; decide) dX12_put_27 (fun H locs hP hD hS => ?_)
  have hP : va_P (dC, dI) vwCl [(aM, .inr (12, (List.set (List.set fsaM 2 (.int 5)) 2 (.int 6)))), (qB, .inl (cB, 3000, .inl g7))] H := hP
  have hD : va_D A [(aM, .inr (12, (List.set (List.set fsaM 2 (.int 5)) 2 (.int 6)))), (qB, .inl (cB, 3000, .inl g7))] := hD
  refine lv_iinc (v := 8) (lv' := [(2, .int 8), (0, .ref aM), (1, .int iW)]) hx hb dX12_put_30 hl (k := 0) rfl (by decide) (by decide) rfl (fun ls hl => ?_)
  refine lv_goto (tgt := 3) hx hb dX12_put_33 (by decide) ?_
  refine lv_iload_n hx hb dX12_put_3 rfl (lv_at hl 0 rfl) ?_
  refine lv_if_lt (tgt := 36) hx hb dX12_put_4 (by decide) (fun zc => absurd zc (by decide)) (fun _ => ?_)
  refine lv_aload_n hx hb dX12_put_7 rfl (lv_at hl 1 rfl) ?_
  refine va_get (D := (dC, dI)) (ci := 12) (v := .ref qB) (C := RX12) (T := TX12) (N := 87) hx hb hts in_m_put4_12 hown hK hP 0 rfl rfl 1 (by decide) (hts (.fieldLink RX12 13 "LanternHouseModel" "tape" "[B") (by decide +kernel)) (fun _ h9 => h9) (zset_ne (by decide) (zset_ne (by decide) haM_1)) dX12_put_8 ?_
  refine lv_aload_n hx hb dX12_put_11 rfl (lv_at hl 1 rfl) ?_
  refine va_get (D := (dC, dI)) (ci := 12) (v := .int 6) (C := RX12) (T := TX12) (N := 87) hx hb hts in_m_put4_12 hown hK hP 0 rfl rfl 2 (by decide) (hts (.fieldLink RX12 204 "LanternHouseModel" "taped" "I") (by decide +kernel)) (fun _ h9 => h9) (zset_eq (by rw [(zset_len hlaM)]; decide)) dX12_put_12 ?_
  refine lv_iload_n hx hb dX12_put_15 rfl (lv_at hl 2 rfl) ?_
  refine lv_iload_n hx hb dX12_put_16 rfl (lv_at hl 0 rfl) ?_
  refine lv_ishr hx hb dX12_put_17 ?_
  refine lv_topi (fun x9 ex9 => ?_)
  refine lv_i2b hx hb dX12_put_18 rfl ?_
  refine lv_topi (fun x10 ex10 => ?_)
  refine z_bast hx hb hK hP hD hS 1 0 rfl rfl (show ¬ ((6 : Int32) < 0 ∨ 3000 ≤ (6 : Int32).toNatClampNeg) from by decide) dX12_put_19 (fun H locs g11 hg11 hP hD hS => ?_)
  have hP : va_P (dC, dI) vwCl [(aM, .inr (12, (List.set (List.set fsaM 2 (.int 5)) 2 (.int 6)))), (qB, .inl (cB, 3000, .inl g11))] H := hP
  have hD : va_D A [(aM, .inr (12, (List.set (List.set fsaM 2 (.int 5)) 2 (.int 6)))), (qB, .inl (cB, 3000, .inl g11))] := hD
  refine lv_aload_n hx hb dX12_put_20 rfl (lv_at hl 1 rfl) ?_
  refine lv_dup hx hb dX12_put_21 rfl ?_
  refine va_get (D := (dC, dI)) (ci := 12) (v := .int 6) (C := RX12) (T := TX12) (N := 87) hx hb hts in_m_put4_12 hown hK hP 0 rfl rfl 2 (by decide) (hts (.fieldLink RX12 204 "LanternHouseModel" "taped" "I") (by decide +kernel)) (fun _ h9 => h9) (zset_eq (by rw [(zset_len hlaM)]; decide)) dX12_put_22 ?_
  refine lv_iconst (v := 1) hx hb dX12_put_25 (by decide) ?_
  refine lv_iadd hx hb dX12_put_26 ?_
  refine lv_topi (fun x12 ex12 => ?_)
  obtain rfl : x12 = 7 := ex12.trans (by decide)
  refine va_put (D := (dC, dI)) (ci := 12) (v := .int 7) (ty := .int) (C := RX12) (T := TX12) (N := 87) hx hb hts in_m_put4_12 tyX12 tyX12_ok nmX12 hown hK hP hD hS 0 rfl rfl 2 (by decide) (hts (.fieldLink RX12 204 "LanternHouseModel" "taped" "I") (by decide +kernel)) (fun _ h9 => h9) rfl (by decide +kernel) rfl rfl (by rw [(zset_len (zset_len hlaM))]; decide) dX12_put_27 (fun H locs hP hD hS => ?_)
  have hP : va_P (dC, dI) vwCl [(aM, .inr (12, (List.set (List.set (List.set fsaM 2 (.int 5)) 2 (.int 6)) 2 (.int 7)))), (qB, .inl (cB, 3000, .inl g11))] H := hP
  have hD : va_D A [(aM, .inr (12, (List.set (List.set (List.set fsaM 2 (.int 5)) 2 (.int 6)) 2 (.int 7)))), (qB, .inl (cB, 3000, .inl g11))] := hD
  refine lv_iinc (v := 0) (lv' := [(2, .int 0), (0, .ref aM), (1, .int iW)]) hx hb dX12_put_30 hl (k := 0) rfl (by decide) (by decide) rfl (fun ls hl => ?_)
  refine lv_goto (tgt := 3) hx hb dX12_put_33 (by decide) ?_
  refine lv_iload_n hx hb dX12_put_3 rfl (lv_at hl 0 rfl) ?_
  refine lv_if_lt (tgt := 36) hx hb dX12_put_4 (by decide) (fun zc => absurd zc (by decide)) (fun _ => ?_)
  refine lv_aload_n hx hb dX12_put_7 rfl (lv_at hl 1 rfl) ?_
  refine va_get (D := (dC, dI)) (ci := 12) (v := .ref qB) (C := RX12) (T := TX12) (N := 87) hx hb hts in_m_put4_12 hown hK hP 0 rfl rfl 1 (by decide) (hts (.fieldLink RX12 13 "LanternHouseModel" "tape" "[B") (by decide +kernel)) (fun _ h9 => h9) (zset_ne (by decide) (zset_ne (by decide) (zset_ne (by decide) haM_1))) dX12_put_8 ?_
  refine lv_aload_n hx hb dX12_put_11 rfl (lv_at hl 1 rfl) ?_
  refine va_get (D := (dC, dI)) (ci := 12) (v := .int 7) (C := RX12) (T := TX12) (N := 87) hx hb hts in_m_put4_12 hown hK hP 0 rfl rfl 2 (by decide) (hts (.fieldLink RX12 204 "LanternHouseModel" "taped" "I") (by decide +kernel)) (fun _ h9 => h9) (zset_eq (by rw [(zset_len (zset_len hlaM))]; decide)) dX12_put_12 ?_
  refine lv_iload_n hx hb dX12_put_15 rfl (lv_at hl 2 rfl) ?_
  refine lv_iload_n hx hb dX12_put_16 rfl (lv_at hl 0 rfl) ?_
  refine lv_ishr hx hb dX12_put_17 ?_
  refine lv_topi (fun x13 ex13 => ?_)
  refine lv_i2b hx hb dX12_put_18 rfl ?_
  refine lv_topi (fun x14 ex14 => ?_)
  refine z_bast hx hb hK hP hD hS 1 0 rfl rfl (show ¬ ((7 : Int32) < 0 ∨ 3000 ≤ (7 : Int32).toNatClampNeg) from by decide) dX12_put_19 (fun H locs g15 hg15 hP hD hS => ?_)
  have hP : va_P (dC, dI) vwCl [(aM, .inr (12, (List.set (List.set (List.set fsaM 2 (.int 5)) 2 (.int 6)) 2 (.int 7)))), (qB, .inl (cB, 3000, .inl g15))] H := hP
  have hD : va_D A [(aM, .inr (12, (List.set (List.set (List.set fsaM 2 (.int 5)) 2 (.int 6)) 2 (.int 7)))), (qB, .inl (cB, 3000, .inl g15))] := hD
  refine lv_aload_n hx hb dX12_put_20 rfl (lv_at hl 1 rfl) ?_
  refine lv_dup hx hb dX12_put_21 rfl ?_
  refine va_get (D := (dC, dI)) (ci := 12) (v := .int 7) (C := RX12) (T := TX12) (N := 87) hx hb hts in_m_put4_12 hown hK hP 0 rfl rfl 2 (by decide) (hts (.fieldLink RX12 204 "LanternHouseModel" "taped" "I") (by decide +kernel)) (fun _ h9 => h9) (zset_eq (by rw [(zset_len (zset_len hlaM))]; decide)) dX12_put_22 ?_
  refine lv_iconst (v := 1) hx hb dX12_put_25 (by decide) ?_
  refine lv_iadd hx hb dX12_put_26 ?_
  refine lv_topi (fun x16 ex16 => ?_)
  obtain rfl : x16 = 8 := ex16.trans (by decide)
  refine va_put (D := (dC, dI)) (ci := 12) (v := .int 8) (ty := .int) (C := RX12) (T := TX12) (N := 87) hx hb hts in_m_put4_12 tyX12 tyX12_ok nmX12 hown hK hP hD hS 0 rfl rfl 2 (by decide) (hts (.fieldLink RX12 204 "LanternHouseModel" "taped" "I") (by decide +kernel)) (fun _ h9 => h9) rfl (by decide +kernel) rfl rfl (by rw [(zset_len (zset_len (zset_len hlaM)))]; decide) dX12_put_27 (fun H locs hP hD hS => ?_)
  have hP : va_P (dC, dI) vwCl [(aM, .inr (12, (List.set (List.set (List.set (List.set fsaM 2 (.int 5)) 2 (.int 6)) 2 (.int 7)) 2 (.int 8)))), (qB, .inl (cB, 3000, .inl g15))] H := hP
  have hD : va_D A [(aM, .inr (12, (List.set (List.set (List.set (List.set fsaM 2 (.int 5)) 2 (.int 6)) 2 (.int 7)) 2 (.int 8)))), (qB, .inl (cB, 3000, .inl g15))] := hD
  refine lv_iinc (v := (-8)) (lv' := [(2, .int (-8)), (0, .ref aM), (1, .int iW)]) hx hb dX12_put_30 hl (k := 0) rfl (by decide) (by decide) rfl (fun ls hl => ?_)
  refine lv_goto (tgt := 3) hx hb dX12_put_33 (by decide) ?_
  refine lv_iload_n hx hb dX12_put_3 rfl (lv_at hl 0 rfl) ?_
  refine lv_if_lt (tgt := 36) hx hb dX12_put_4 (by decide) (fun _ => ?_) (fun zc => absurd zc (by decide))
  have hP9 : va_P (dC, dI) vwCl [(aM, .inr (12, (List.set (List.set (List.set (List.set fsaM 2 (.int 5)) 2 (.int 6)) 2 (.int 7)) 2 (.int 8)))), (qB, .inl (cB, 3000, .inl g15))] H := hP.sub [0, 1] rfl
  have hD9 : va_D A [(aM, .inr (12, (List.set (List.set (List.set (List.set fsaM 2 (.int 5)) 2 (.int 6)) 2 (.int 7)) 2 (.int 8)))), (qB, .inl (cB, 3000, .inl g15))] := hD.sub [0, 1] (by decide) rfl
  exact W.vret hx hb hr (fun t ht hW => ⟨⟨(), rfl, trivial, ⟨g15, (List.set (List.set (List.set (List.set fsaM 2 (.int 5)) 2 (.int 6)) 2 (.int 7)) 2 (.int 8)), (zset_len (zset_len (zset_len (zset_len hlaM)))), (fun j hj => ((zfr (by decide) hj).trans ((zfr (by decide) hj).trans ((zfr (by decide) hj).trans ((zfr (by decide) hj).trans rfl))))), (zset_eq (by rw [(zset_len (zset_len (zset_len hlaM)))]; decide)), by rw [ht]; exact hP9, hD9⟩⟩, hS.F ht⟩) hS.2.2 dX12_put_36

def zs_m_put8 : List Cond := .code yX12_put cX12_put 3 none :: (([.fieldLink RX12 13 "LanternHouseModel" "tape" "[B", .fieldLink RX12 204 "LanternHouseModel" "taped" "I"] : List Cond) ++ (wsX120 ++ []))
theorem gd_m_put8 : (zs_m_put8).all goodWord = true := by decide +kernel
theorem in_m_put8_12 : ∀ w ∈ wsX120, w ∈ zs_m_put8 := fun w h => List.mem_cons_of_mem _ (List.mem_append_right _ (List.mem_append_left _ h))
abbrev ws_m_put8 (cB cI cJ cZ cQ : ClassId) (aM qB : Nat) (iW : Int32) (fB : Nat → Int32) (fsaM : List Value) : va_W := [(aM, .inr (12, fsaM)), (qB, .inl (cB, 3000, .inl fB))]
set_option maxHeartbeats 4000000 in
set_option maxRecDepth 100000 in
theorem m_put8 (l : Launch) (dC : Nat → ClassId) (dI : Nat → Nat → Nat) (cB cI cJ cZ cQ : ClassId) (aM qB : Nat) (iW : Int32) (fB : Nat → Int32) (fsaM : List Value) (sz : Nat) (hlaM : fsaM.length = 87) (haM_1 : fsaM[1]? = some (.ref qB)) (haM_2 : fsaM[2]? = some (.int 8)) : Met l yX12_put zs_m_put8 ({ frames := 0, cells := 0, slots := 0, locals := 0 } : Room) (zPc [.ref aM, .int iW] (dC, dI) (zTY cB cI cJ cZ cQ) (ws_m_put8 cB cI cJ cZ cQ aM qB iW fB fsaM) sz) (va_Qv (fun (_ : Unit) => True) (fun (_ : Unit) (t : State) => ∃ (fB2 : Nat → Int32), ∃ (gsaM : List Value), gsaM.length = 87 ∧ (∀ j : Nat, ¬ j ∈ ([2] : List Nat) → gsaM[j]? = fsaM[j]?) ∧ gsaM[2]? = some (.int 12) ∧ va_P (dC, dI) vwCl [(aM, .inr (12, gsaM)), (qB, .inl (cB, 3000, .inl fB2))] t.heap ∧ va_D (va_A (ws_m_put8 cB cI cJ cZ cQ aM qB iW fB fsaM) sz) [(aM, .inr (12, gsaM)), (qB, .inl (cB, 3000, .inl fB2))]) (va_A (ws_m_put8 cB cI cJ cZ cQ aM qB iW fB fsaM) sz)) 0 0 (va_A (ws_m_put8 cB cI cJ cZ cQ aM qB iW fB fsaM) sz) := by
  refine Met.ofW (cc := cX12_put) (maxL := 3) (ret := none) (by decide) rfl ?_
  intro p e s m args below meth c s₁ B hml hv
  obtain ⟨rfl, hsz, hP0, hK, hO, hD0⟩ := hv
  have hx := B.exec
  have hb := B.bytes
  have hr := B.returns
  have hts := atoms_spec (ws := zs_m_put8) B.pre
  have hown : s.vm.findClass RX12 = some m.cls := findClass_of_methodNamed B.named
  have hlocks := B.notSynchronized
  subst hsz
  have hD8 := hD0.self (sz := s.heap.size)
  generalize hAe : va_A (ws_m_put8 cB cI cJ cZ cQ aM qB iW fB fsaM) s.heap.size = A at hD8 ⊢
  have hA : ∀ q : Nat, s.heap.size ≤ q → A q := fun q h => by rw [← hAe]; exact Or.inr h
  have hS : va_S A s.heap s.heap [] := va_S.rf
  have hP : va_P (dC, dI) vwCl [(aM, .inr (12, fsaM)), (qB, .inl (cB, 3000, .inl fB))] s.heap := hP0
  have hD : va_D A [(aM, .inr (12, fsaM)), (qB, .inl (cB, 3000, .inl fB))] := hD8
  have hl := lv_entry ([.ref aM, .int iW]) (n := 3) (Nat.le_of_ble_eq_true rfl)
  rw [lg_entry_eq]
  generalize (lg_sl ([.ref aM, .int iW]) ++ List.replicate (3 - (lg_sl ([.ref aM, .int iW])).length) Slot.unset).toArray = ls at hl ⊢
  have hl : lv_has ls 3 [(0, .ref aM), (1, .int iW)] := hl
  clear hP0 hD8 hD0
  refine zH0 (fun H hP hS => ?_) hP hS
  refine lv_bipush (v := 24) hx hb dX12_put_0 (by decide) ?_
  refine lv_istore_n (lv' := [(2, .int 24), (0, .ref aM), (1, .int iW)]) hx hb dX12_put_2 rfl hl (by decide) rfl (fun ls hl => ?_)
  refine lv_iload_n hx hb dX12_put_3 rfl (lv_at hl 0 rfl) ?_
  refine lv_if_lt (tgt := 36) hx hb dX12_put_4 (by decide) (fun zc => absurd zc (by decide)) (fun _ => ?_)
  refine lv_aload_n hx hb dX12_put_7 rfl (lv_at hl 1 rfl) ?_
  refine va_get (D := (dC, dI)) (ci := 12) (v := .ref qB) (C := RX12) (T := TX12) (N := 87) hx hb hts in_m_put8_12 hown hK hP 0 rfl rfl 1 (by decide) (hts (.fieldLink RX12 13 "LanternHouseModel" "tape" "[B") (by decide +kernel)) (fun _ h9 => h9) haM_1 dX12_put_8 ?_
  refine lv_aload_n hx hb dX12_put_11 rfl (lv_at hl 1 rfl) ?_
  refine va_get (D := (dC, dI)) (ci := 12) (v := .int 8) (C := RX12) (T := TX12) (N := 87) hx hb hts in_m_put8_12 hown hK hP 0 rfl rfl 2 (by decide) (hts (.fieldLink RX12 204 "LanternHouseModel" "taped" "I") (by decide +kernel)) (fun _ h9 => h9) haM_2 dX12_put_12 ?_
  refine lv_iload_n hx hb dX12_put_15 rfl (lv_at hl 2 rfl) ?_
  refine lv_iload_n hx hb dX12_put_16 rfl (lv_at hl 0 rfl) ?_
  refine lv_ishr hx hb dX12_put_17 ?_
  refine lv_topi (fun x1 ex1 => ?_)
  refine lv_i2b hx hb dX12_put_18 rfl ?_
  refine lv_topi (fun x2 ex2 => ?_)
  refine z_bast hx hb hK hP hD hS 1 0 rfl rfl (show ¬ ((8 : Int32) < 0 ∨ 3000 ≤ (8 : Int32).toNatClampNeg) from by decide) dX12_put_19 (fun H locs g3 hg3 hP hD hS => ?_)
  have hP : va_P (dC, dI) vwCl [(aM, .inr (12, fsaM)), (qB, .inl (cB, 3000, .inl g3))] H := hP
  have hD : va_D A [(aM, .inr (12, fsaM)), (qB, .inl (cB, 3000, .inl g3))] := hD
  refine lv_aload_n hx hb dX12_put_20 rfl (lv_at hl 1 rfl) ?_
  refine lv_dup hx hb dX12_put_21 rfl ?_
  refine va_get (D := (dC, dI)) (ci := 12) (v := .int 8) (C := RX12) (T := TX12) (N := 87) hx hb hts in_m_put8_12 hown hK hP 0 rfl rfl 2 (by decide) (hts (.fieldLink RX12 204 "LanternHouseModel" "taped" "I") (by decide +kernel)) (fun _ h9 => h9) haM_2 dX12_put_22 ?_
  refine lv_iconst (v := 1) hx hb dX12_put_25 (by decide) ?_
  refine lv_iadd hx hb dX12_put_26 ?_
  refine lv_topi (fun x4 ex4 => ?_)
  obtain rfl : x4 = 9 := ex4.trans (by decide)
  refine va_put (D := (dC, dI)) (ci := 12) (v := .int 9) (ty := .int) (C := RX12) (T := TX12) (N := 87) hx hb hts in_m_put8_12 tyX12 tyX12_ok nmX12 hown hK hP hD hS 0 rfl rfl 2 (by decide) (hts (.fieldLink RX12 204 "LanternHouseModel" "taped" "I") (by decide +kernel)) (fun _ h9 => h9) rfl (by decide +kernel) rfl rfl (by rw [hlaM]; decide) dX12_put_27 (fun H locs hP hD hS => ?_)
  have hP : va_P (dC, dI) vwCl [(aM, .inr (12, (List.set fsaM 2 (.int 9)))), (qB, .inl (cB, 3000, .inl g3))] H := hP
  have hD : va_D A [(aM, .inr (12, (List.set fsaM 2 (.int 9)))), (qB, .inl (cB, 3000, .inl g3))] := hD
  refine lv_iinc (v := 16) (lv' := [(2, .int 16), (0, .ref aM), (1, .int iW)]) hx hb dX12_put_30 hl (k := 0) rfl (by decide) (by decide) rfl (fun ls hl => ?_)
  refine lv_goto (tgt := 3) hx hb dX12_put_33 (by decide) ?_
  refine lv_iload_n hx hb dX12_put_3 rfl (lv_at hl 0 rfl) ?_
  refine lv_if_lt (tgt := 36) hx hb dX12_put_4 (by decide) (fun zc => absurd zc (by decide)) (fun _ => ?_)
  refine lv_aload_n hx hb dX12_put_7 rfl (lv_at hl 1 rfl) ?_
  refine va_get (D := (dC, dI)) (ci := 12) (v := .ref qB) (C := RX12) (T := TX12) (N := 87) hx hb hts in_m_put8_12 hown hK hP 0 rfl rfl 1 (by decide) (hts (.fieldLink RX12 13 "LanternHouseModel" "tape" "[B") (by decide +kernel)) (fun _ h9 => h9) (zset_ne (by decide) haM_1) dX12_put_8 ?_
  refine lv_aload_n hx hb dX12_put_11 rfl (lv_at hl 1 rfl) ?_
  refine va_get (D := (dC, dI)) (ci := 12) (v := .int 9) (C := RX12) (T := TX12) (N := 87) hx hb hts in_m_put8_12 hown hK hP 0 rfl rfl 2 (by decide) (hts (.fieldLink RX12 204 "LanternHouseModel" "taped" "I") (by decide +kernel)) (fun _ h9 => h9) (zset_eq (by rw [hlaM]; decide)) dX12_put_12 ?_
  refine lv_iload_n hx hb dX12_put_15 rfl (lv_at hl 2 rfl) ?_
  refine lv_iload_n hx hb dX12_put_16 rfl (lv_at hl 0 rfl) ?_
  refine lv_ishr hx hb dX12_put_17 ?_
  refine lv_topi (fun x5 ex5 => ?_)
  refine lv_i2b hx hb dX12_put_18 rfl ?_
  refine lv_topi (fun x6 ex6 => ?_)
  refine z_bast hx hb hK hP hD hS 1 0 rfl rfl (show ¬ ((9 : Int32) < 0 ∨ 3000 ≤ (9 : Int32).toNatClampNeg) from by decide) dX12_put_19 (fun H locs g7 hg7 hP hD hS => ?_)
  have hP : va_P (dC, dI) vwCl [(aM, .inr (12, (List.set fsaM 2 (.int 9)))), (qB, .inl (cB, 3000, .inl g7))] H := hP
  have hD : va_D A [(aM, .inr (12, (List.set fsaM 2 (.int 9)))), (qB, .inl (cB, 3000, .inl g7))] := hD
  refine lv_aload_n hx hb dX12_put_20 rfl (lv_at hl 1 rfl) ?_
  refine lv_dup hx hb dX12_put_21 rfl ?_
  refine va_get (D := (dC, dI)) (ci := 12) (v := .int 9) (C := RX12) (T := TX12) (N := 87) hx hb hts in_m_put8_12 hown hK hP 0 rfl rfl 2 (by decide) (hts (.fieldLink RX12 204 "LanternHouseModel" "taped" "I") (by decide +kernel)) (fun _ h9 => h9) (zset_eq (by rw [hlaM]; decide)) dX12_put_22 ?_
  refine lv_iconst (v := 1) hx hb dX12_put_25 (by decide) ?_
  refine lv_iadd hx hb dX12_put_26 ?_
  refine lv_topi (fun x8 ex8 => ?_)
  obtain rfl : x8 = 10 := ex8.trans (by decide)
  refine va_put (D := (dC, dI)) (ci := 12) (v := .int 10) (ty := .int) (C := RX12) (T := TX12) (N := 87) hx hb hts in_m_put8_12 tyX12 tyX12_ok nmX12 hown hK hP hD hS 0 rfl rfl 2 (by decide) (hts (.fieldLink RX12 204 "LanternHouseModel" "taped" "I") (by decide +kernel)) (fun _ h9 => h9) rfl (by decide +kernel) rfl rfl (by rw [(zset_len hlaM)]; decide) dX12_put_27 (fun H locs hP hD hS => ?_)
  have hP : va_P (dC, dI) vwCl [(aM, .inr (12, (List.set (List.set fsaM 2 (.int 9)) 2 (.int 10)))), (qB, .inl (cB, 3000, .inl g7))] H := hP
  have hD : va_D A [(aM, .inr (12, (List.set (List.set fsaM 2 (.int 9)) 2 (.int 10)))), (qB, .inl (cB, 3000, .inl g7))] := hD
  refine lv_iinc (v := 8) (lv' := [(2, .int 8), (0, .ref aM), (1, .int iW)]) hx hb dX12_put_30 hl (k := 0) rfl (by decide) (by decide) rfl (fun ls hl => ?_)
  refine lv_goto (tgt := 3) hx hb dX12_put_33 (by decide) ?_
  refine lv_iload_n hx hb dX12_put_3 rfl (lv_at hl 0 rfl) ?_
  refine lv_if_lt (tgt := 36) hx hb dX12_put_4 (by decide) (fun zc => absurd zc (by decide)) (fun _ => ?_)
  refine lv_aload_n hx hb dX12_put_7 rfl (lv_at hl 1 rfl) ?_
  refine va_get (D := (dC, dI)) (ci := 12) (v := .ref qB) (C := RX12) (T := TX12) (N := 87) hx hb hts in_m_put8_12 hown hK hP 0 rfl rfl 1 (by decide) (hts (.fieldLink RX12 13 "LanternHouseModel" "tape" "[B") (by decide +kernel)) (fun _ h9 => h9) (zset_ne (by decide) (zset_ne (by decide) haM_1)) dX12_put_8 ?_
  refine lv_aload_n hx hb dX12_put_11 rfl (lv_at hl 1 rfl) ?_
  refine va_get (D := (dC, dI)) (ci := 12) (v := .int 10) (C := RX12) (T := TX12) (N := 87) hx hb hts in_m_put8_12 hown hK hP 0 rfl rfl 2 (by decide) (hts (.fieldLink RX12 204 "LanternHouseModel" "taped" "I") (by decide +kernel)) (fun _ h9 => h9) (zset_eq (by rw [(zset_len hlaM)]; decide)) dX12_put_12 ?_
  refine lv_iload_n hx hb dX12_put_15 rfl (lv_at hl 2 rfl) ?_
  refine lv_iload_n hx hb dX12_put_16 rfl (lv_at hl 0 rfl) ?_
  refine lv_ishr hx hb dX12_put_17 ?_
  refine lv_topi (fun x9 ex9 => ?_)
  refine lv_i2b hx hb dX12_put_18 rfl ?_
  refine lv_topi (fun x10 ex10 => ?_)
  refine z_bast hx hb hK hP hD hS 1 0 rfl rfl (show ¬ ((10 : Int32) < 0 ∨ 3000 ≤ (10 : Int32).toNatClampNeg) from by decide) dX12_put_19 (fun H locs g11 hg11 hP hD hS => ?_)
  have hP : va_P (dC, dI) vwCl [(aM, .inr (12, (List.set (List.set fsaM 2 (.int 9)) 2 (.int 10)))), (qB, .inl (cB, 3000, .inl g11))] H := hP
  have hD : va_D A [(aM, .inr (12, (List.set (List.set fsaM 2 (.int 9)) 2 (.int 10)))), (qB, .inl (cB, 3000, .inl g11))] := hD
  refine lv_aload_n hx hb dX12_put_20 rfl (lv_at hl 1 rfl) ?_
  refine lv_dup hx hb dX12_put_21 rfl ?_
  refine va_get (D := (dC, dI)) (ci := 12) (v := .int 10) (C := RX12) (T := TX12) (N := 87) hx hb hts in_m_put8_12 hown hK hP 0 rfl rfl 2 (by decide) (hts (.fieldLink RX12 204 "LanternHouseModel" "taped" "I") (by decide +kernel)) (fun _ h9 => h9) (zset_eq (by rw [(zset_len hlaM)]; decide)) dX12_put_22 ?_
  refine lv_iconst (v := 1) hx hb dX12_put_25 (by decide) ?_
  refine lv_iadd hx hb dX12_put_26 ?_
  refine lv_topi (fun x12 ex12 => ?_)
  obtain rfl : x12 = 11 := ex12.trans (by decide)
  refine va_put (D := (dC, dI)) (ci := 12) (v := .int 11) (ty := .int) (C := RX12) (T := TX12) (N := 87) hx hb hts in_m_put8_12 tyX12 tyX12_ok nmX12 hown hK hP hD hS 0 rfl rfl 2 (by decide) (hts (.fieldLink RX12 204 "LanternHouseModel" "taped" "I") (by decide +kernel)) (fun _ h9 => h9) rfl (by decide +kernel) rfl rfl (by rw [(zset_len (zset_len hlaM))]; decide) dX12_put_27 (fun H locs hP hD hS => ?_)
  have hP : va_P (dC, dI) vwCl [(aM, .inr (12, (List.set (List.set (List.set fsaM 2 (.int 9)) 2 (.int 10)) 2 (.int 11)))), (qB, .inl (cB, 3000, .inl g11))] H := hP
  have hD : va_D A [(aM, .inr (12, (List.set (List.set (List.set fsaM 2 (.int 9)) 2 (.int 10)) 2 (.int 11)))), (qB, .inl (cB, 3000, .inl g11))] := hD
  refine lv_iinc (v := 0) (lv' := [(2, .int 0), (0, .ref aM), (1, .int iW)]) hx hb dX12_put_30 hl (k := 0) rfl (by decide) (by decide) rfl (fun ls hl => ?_)
  refine lv_goto (tgt := 3) hx hb dX12_put_33 (by decide) ?_
  refine lv_iload_n hx hb dX12_put_3 rfl (lv_at hl 0 rfl) ?_
  refine lv_if_lt (tgt := 36) hx hb dX12_put_4 (by decide) (fun zc => absurd zc (by decide)) (fun _ => ?_)
  refine lv_aload_n hx hb dX12_put_7 rfl (lv_at hl 1 rfl) ?_
  refine va_get (D := (dC, dI)) (ci := 12) (v := .ref qB) (C := RX12) (T := TX12) (N := 87) hx hb hts in_m_put8_12 hown hK hP 0 rfl rfl 1 (by decide) (hts (.fieldLink RX12 13 "LanternHouseModel" "tape" "[B") (by decide +kernel)) (fun _ h9 => h9) (zset_ne (by decide) (zset_ne (by decide) (zset_ne (by decide) haM_1))) dX12_put_8 ?_
  refine lv_aload_n hx hb dX12_put_11 rfl (lv_at hl 1 rfl) ?_
  refine va_get (D := (dC, dI)) (ci := 12) (v := .int 11) (C := RX12) (T := TX12) (N := 87) hx hb hts in_m_put8_12 hown hK hP 0 rfl rfl 2 (by decide) (hts (.fieldLink RX12 204 "LanternHouseModel" "taped" "I") (by decide +kernel)) (fun _ h9 => h9) (zset_eq (by rw [(zset_len (zset_len hlaM))]; decide)) dX12_put_12 ?_
  refine lv_iload_n hx hb dX12_put_15 rfl (lv_at hl 2 rfl) ?_
  refine lv_iload_n hx hb dX12_put_16 rfl (lv_at hl 0 rfl) ?_
  refine lv_ishr hx hb dX12_put_17 ?_
  refine lv_topi (fun x13 ex13 => ?_)
  refine lv_i2b hx hb dX12_put_18 rfl ?_
  refine lv_topi (fun x14 ex14 => ?_)
  refine z_bast hx hb hK hP hD hS 1 0 rfl rfl (show ¬ ((11 : Int32) < 0 ∨ 3000 ≤ (11 : Int32).toNatClampNeg) from by decide) dX12_put_19 (fun H locs g15 hg15 hP hD hS => ?_)
  have hP : va_P (dC, dI) vwCl [(aM, .inr (12, (List.set (List.set (List.set fsaM 2 (.int 9)) 2 (.int 10)) 2 (.int 11)))), (qB, .inl (cB, 3000, .inl g15))] H := hP
  have hD : va_D A [(aM, .inr (12, (List.set (List.set (List.set fsaM 2 (.int 9)) 2 (.int 10)) 2 (.int 11)))), (qB, .inl (cB, 3000, .inl g15))] := hD
  refine lv_aload_n hx hb dX12_put_20 rfl (lv_at hl 1 rfl) ?_
  refine lv_dup hx hb dX12_put_21 rfl ?_
  refine va_get (D := (dC, dI)) (ci := 12) (v := .int 11) (C := RX12) (T := TX12) (N := 87) hx hb hts in_m_put8_12 hown hK hP 0 rfl rfl 2 (by decide) (hts (.fieldLink RX12 204 "LanternHouseModel" "taped" "I") (by decide +kernel)) (fun _ h9 => h9) (zset_eq (by rw [(zset_len (zset_len hlaM))]; decide)) dX12_put_22 ?_
  refine lv_iconst (v := 1) hx hb dX12_put_25 (by decide) ?_
  refine lv_iadd hx hb dX12_put_26 ?_
  refine lv_topi (fun x16 ex16 => ?_)
  obtain rfl : x16 = 12 := ex16.trans (by decide)
  refine va_put (D := (dC, dI)) (ci := 12) (v := .int 12) (ty := .int) (C := RX12) (T := TX12) (N := 87) hx hb hts in_m_put8_12 tyX12 tyX12_ok nmX12 hown hK hP hD hS 0 rfl rfl 2 (by decide) (hts (.fieldLink RX12 204 "LanternHouseModel" "taped" "I") (by decide +kernel)) (fun _ h9 => h9) rfl (by decide +kernel) rfl rfl (by rw [(zset_len (zset_len (zset_len hlaM)))]; decide) dX12_put_27 (fun H locs hP hD hS => ?_)
  have hP : va_P (dC, dI) vwCl [(aM, .inr (12, (List.set (List.set (List.set (List.set fsaM 2 (.int 9)) 2 (.int 10)) 2 (.int 11)) 2 (.int 12)))), (qB, .inl (cB, 3000, .inl g15))] H := hP
  have hD : va_D A [(aM, .inr (12, (List.set (List.set (List.set (List.set fsaM 2 (.int 9)) 2 (.int 10)) 2 (.int 11)) 2 (.int 12)))), (qB, .inl (cB, 3000, .inl g15))] := hD
  refine lv_iinc (v := (-8)) (lv' := [(2, .int (-8)), (0, .ref aM), (1, .int iW)]) hx hb dX12_put_30 hl (k := 0) rfl (by decide) (by decide) rfl (fun ls hl => ?_)
  refine lv_goto (tgt := 3) hx hb dX12_put_33 (by decide) ?_
  refine lv_iload_n hx hb dX12_put_3 rfl (lv_at hl 0 rfl) ?_
  refine lv_if_lt (tgt := 36) hx hb dX12_put_4 (by decide) (fun _ => ?_) (fun zc => absurd zc (by decide))
  have hP9 : va_P (dC, dI) vwCl [(aM, .inr (12, (List.set (List.set (List.set (List.set fsaM 2 (.int 9)) 2 (.int 10)) 2 (.int 11)) 2 (.int 12)))), (qB, .inl (cB, 3000, .inl g15))] H := hP.sub [0, 1] rfl
  have hD9 : va_D A [(aM, .inr (12, (List.set (List.set (List.set (List.set fsaM 2 (.int 9)) 2 (.int 10)) 2 (.int 11)) 2 (.int 12)))), (qB, .inl (cB, 3000, .inl g15))] := hD.sub [0, 1] (by decide) rfl
  exact W.vret hx hb hr (fun t ht hW => ⟨⟨(), rfl, trivial, ⟨g15, (List.set (List.set (List.set (List.set fsaM 2 (.int 9)) 2 (.int 10)) 2 (.int 11)) 2 (.int 12)), (zset_len (zset_len (zset_len (zset_len hlaM)))), (fun j hj => ((zfr (by decide) hj).trans ((zfr (by decide) hj).trans ((zfr (by decide) hj).trans ((zfr (by decide) hj).trans rfl))))), (zset_eq (by rw [(zset_len (zset_len (zset_len hlaM)))]; decide)), by rw [ht]; exact hP9, hD9⟩⟩, hS.F ht⟩) hS.2.2 dX12_put_36

def zs_m_put12 : List Cond := .code yX12_put cX12_put 3 none :: (([.fieldLink RX12 13 "LanternHouseModel" "tape" "[B", .fieldLink RX12 204 "LanternHouseModel" "taped" "I"] : List Cond) ++ (wsX120 ++ []))
theorem gd_m_put12 : (zs_m_put12).all goodWord = true := by decide +kernel
theorem in_m_put12_12 : ∀ w ∈ wsX120, w ∈ zs_m_put12 := fun w h => List.mem_cons_of_mem _ (List.mem_append_right _ (List.mem_append_left _ h))
abbrev ws_m_put12 (cB cI cJ cZ cQ : ClassId) (aM qB : Nat) (iW : Int32) (fB : Nat → Int32) (fsaM : List Value) : va_W := [(aM, .inr (12, fsaM)), (qB, .inl (cB, 3000, .inl fB))]
set_option maxHeartbeats 4000000 in
set_option maxRecDepth 100000 in
theorem m_put12 (l : Launch) (dC : Nat → ClassId) (dI : Nat → Nat → Nat) (cB cI cJ cZ cQ : ClassId) (aM qB : Nat) (iW : Int32) (fB : Nat → Int32) (fsaM : List Value) (sz : Nat) (hlaM : fsaM.length = 87) (haM_1 : fsaM[1]? = some (.ref qB)) (haM_2 : fsaM[2]? = some (.int 12)) : Met l yX12_put zs_m_put12 ({ frames := 0, cells := 0, slots := 0, locals := 0 } : Room) (zPc [.ref aM, .int iW] (dC, dI) (zTY cB cI cJ cZ cQ) (ws_m_put12 cB cI cJ cZ cQ aM qB iW fB fsaM) sz) (va_Qv (fun (_ : Unit) => True) (fun (_ : Unit) (t : State) => ∃ (fB2 : Nat → Int32), ∃ (gsaM : List Value), gsaM.length = 87 ∧ (∀ j : Nat, ¬ j ∈ ([2] : List Nat) → gsaM[j]? = fsaM[j]?) ∧ gsaM[2]? = some (.int 16) ∧ va_P (dC, dI) vwCl [(aM, .inr (12, gsaM)), (qB, .inl (cB, 3000, .inl fB2))] t.heap ∧ va_D (va_A (ws_m_put12 cB cI cJ cZ cQ aM qB iW fB fsaM) sz) [(aM, .inr (12, gsaM)), (qB, .inl (cB, 3000, .inl fB2))]) (va_A (ws_m_put12 cB cI cJ cZ cQ aM qB iW fB fsaM) sz)) 0 0 (va_A (ws_m_put12 cB cI cJ cZ cQ aM qB iW fB fsaM) sz) := by
  refine Met.ofW (cc := cX12_put) (maxL := 3) (ret := none) (by decide) rfl ?_
  intro p e s m args below meth c s₁ B hml hv
  obtain ⟨rfl, hsz, hP0, hK, hO, hD0⟩ := hv
  have hx := B.exec
  have hb := B.bytes
  have hr := B.returns
  have hts := atoms_spec (ws := zs_m_put12) B.pre
  have hown : s.vm.findClass RX12 = some m.cls := findClass_of_methodNamed B.named
  have hlocks := B.notSynchronized
  subst hsz
  have hD8 := hD0.self (sz := s.heap.size)
  generalize hAe : va_A (ws_m_put12 cB cI cJ cZ cQ aM qB iW fB fsaM) s.heap.size = A at hD8 ⊢
  have hA : ∀ q : Nat, s.heap.size ≤ q → A q := fun q h => by rw [← hAe]; exact Or.inr h
  have hS : va_S A s.heap s.heap [] := va_S.rf
  have hP : va_P (dC, dI) vwCl [(aM, .inr (12, fsaM)), (qB, .inl (cB, 3000, .inl fB))] s.heap := hP0
  have hD : va_D A [(aM, .inr (12, fsaM)), (qB, .inl (cB, 3000, .inl fB))] := hD8
  have hl := lv_entry ([.ref aM, .int iW]) (n := 3) (Nat.le_of_ble_eq_true rfl)
  rw [lg_entry_eq]
  generalize (lg_sl ([.ref aM, .int iW]) ++ List.replicate (3 - (lg_sl ([.ref aM, .int iW])).length) Slot.unset).toArray = ls at hl ⊢
  have hl : lv_has ls 3 [(0, .ref aM), (1, .int iW)] := hl
  clear hP0 hD8 hD0
  refine zH0 (fun H hP hS => ?_) hP hS
  refine lv_bipush (v := 24) hx hb dX12_put_0 (by decide) ?_
  refine lv_istore_n (lv' := [(2, .int 24), (0, .ref aM), (1, .int iW)]) hx hb dX12_put_2 rfl hl (by decide) rfl (fun ls hl => ?_)
  refine lv_iload_n hx hb dX12_put_3 rfl (lv_at hl 0 rfl) ?_
  refine lv_if_lt (tgt := 36) hx hb dX12_put_4 (by decide) (fun zc => absurd zc (by decide)) (fun _ => ?_)
  refine lv_aload_n hx hb dX12_put_7 rfl (lv_at hl 1 rfl) ?_
  refine va_get (D := (dC, dI)) (ci := 12) (v := .ref qB) (C := RX12) (T := TX12) (N := 87) hx hb hts in_m_put12_12 hown hK hP 0 rfl rfl 1 (by decide) (hts (.fieldLink RX12 13 "LanternHouseModel" "tape" "[B") (by decide +kernel)) (fun _ h9 => h9) haM_1 dX12_put_8 ?_
  refine lv_aload_n hx hb dX12_put_11 rfl (lv_at hl 1 rfl) ?_
  refine va_get (D := (dC, dI)) (ci := 12) (v := .int 12) (C := RX12) (T := TX12) (N := 87) hx hb hts in_m_put12_12 hown hK hP 0 rfl rfl 2 (by decide) (hts (.fieldLink RX12 204 "LanternHouseModel" "taped" "I") (by decide +kernel)) (fun _ h9 => h9) haM_2 dX12_put_12 ?_
  refine lv_iload_n hx hb dX12_put_15 rfl (lv_at hl 2 rfl) ?_
  refine lv_iload_n hx hb dX12_put_16 rfl (lv_at hl 0 rfl) ?_
  refine lv_ishr hx hb dX12_put_17 ?_
  refine lv_topi (fun x1 ex1 => ?_)
  refine lv_i2b hx hb dX12_put_18 rfl ?_
  refine lv_topi (fun x2 ex2 => ?_)
  refine z_bast hx hb hK hP hD hS 1 0 rfl rfl (show ¬ ((12 : Int32) < 0 ∨ 3000 ≤ (12 : Int32).toNatClampNeg) from by decide) dX12_put_19 (fun H locs g3 hg3 hP hD hS => ?_)
  have hP : va_P (dC, dI) vwCl [(aM, .inr (12, fsaM)), (qB, .inl (cB, 3000, .inl g3))] H := hP
  have hD : va_D A [(aM, .inr (12, fsaM)), (qB, .inl (cB, 3000, .inl g3))] := hD
  refine lv_aload_n hx hb dX12_put_20 rfl (lv_at hl 1 rfl) ?_
  refine lv_dup hx hb dX12_put_21 rfl ?_
  refine va_get (D := (dC, dI)) (ci := 12) (v := .int 12) (C := RX12) (T := TX12) (N := 87) hx hb hts in_m_put12_12 hown hK hP 0 rfl rfl 2 (by decide) (hts (.fieldLink RX12 204 "LanternHouseModel" "taped" "I") (by decide +kernel)) (fun _ h9 => h9) haM_2 dX12_put_22 ?_
  refine lv_iconst (v := 1) hx hb dX12_put_25 (by decide) ?_
  refine lv_iadd hx hb dX12_put_26 ?_
  refine lv_topi (fun x4 ex4 => ?_)
  obtain rfl : x4 = 13 := ex4.trans (by decide)
  refine va_put (D := (dC, dI)) (ci := 12) (v := .int 13) (ty := .int) (C := RX12) (T := TX12) (N := 87) hx hb hts in_m_put12_12 tyX12 tyX12_ok nmX12 hown hK hP hD hS 0 rfl rfl 2 (by decide) (hts (.fieldLink RX12 204 "LanternHouseModel" "taped" "I") (by decide +kernel)) (fun _ h9 => h9) rfl (by decide +kernel) rfl rfl (by rw [hlaM]; decide) dX12_put_27 (fun H locs hP hD hS => ?_)
  have hP : va_P (dC, dI) vwCl [(aM, .inr (12, (List.set fsaM 2 (.int 13)))), (qB, .inl (cB, 3000, .inl g3))] H := hP
  have hD : va_D A [(aM, .inr (12, (List.set fsaM 2 (.int 13)))), (qB, .inl (cB, 3000, .inl g3))] := hD
  refine lv_iinc (v := 16) (lv' := [(2, .int 16), (0, .ref aM), (1, .int iW)]) hx hb dX12_put_30 hl (k := 0) rfl (by decide) (by decide) rfl (fun ls hl => ?_)
  refine lv_goto (tgt := 3) hx hb dX12_put_33 (by decide) ?_
  refine lv_iload_n hx hb dX12_put_3 rfl (lv_at hl 0 rfl) ?_
  refine lv_if_lt (tgt := 36) hx hb dX12_put_4 (by decide) (fun zc => absurd zc (by decide)) (fun _ => ?_)
  refine lv_aload_n hx hb dX12_put_7 rfl (lv_at hl 1 rfl) ?_
  refine va_get (D := (dC, dI)) (ci := 12) (v := .ref qB) (C := RX12) (T := TX12) (N := 87) hx hb hts in_m_put12_12 hown hK hP 0 rfl rfl 1 (by decide) (hts (.fieldLink RX12 13 "LanternHouseModel" "tape" "[B") (by decide +kernel)) (fun _ h9 => h9) (zset_ne (by decide) haM_1) dX12_put_8 ?_
  refine lv_aload_n hx hb dX12_put_11 rfl (lv_at hl 1 rfl) ?_
  refine va_get (D := (dC, dI)) (ci := 12) (v := .int 13) (C := RX12) (T := TX12) (N := 87) hx hb hts in_m_put12_12 hown hK hP 0 rfl rfl 2 (by decide) (hts (.fieldLink RX12 204 "LanternHouseModel" "taped" "I") (by decide +kernel)) (fun _ h9 => h9) (zset_eq (by rw [hlaM]; decide)) dX12_put_12 ?_
  refine lv_iload_n hx hb dX12_put_15 rfl (lv_at hl 2 rfl) ?_
  refine lv_iload_n hx hb dX12_put_16 rfl (lv_at hl 0 rfl) ?_
  refine lv_ishr hx hb dX12_put_17 ?_
  refine lv_topi (fun x5 ex5 => ?_)
  refine lv_i2b hx hb dX12_put_18 rfl ?_
  refine lv_topi (fun x6 ex6 => ?_)
  refine z_bast hx hb hK hP hD hS 1 0 rfl rfl (show ¬ ((13 : Int32) < 0 ∨ 3000 ≤ (13 : Int32).toNatClampNeg) from by decide) dX12_put_19 (fun H locs g7 hg7 hP hD hS => ?_)
  have hP : va_P (dC, dI) vwCl [(aM, .inr (12, (List.set fsaM 2 (.int 13)))), (qB, .inl (cB, 3000, .inl g7))] H := hP
  have hD : va_D A [(aM, .inr (12, (List.set fsaM 2 (.int 13)))), (qB, .inl (cB, 3000, .inl g7))] := hD
  refine lv_aload_n hx hb dX12_put_20 rfl (lv_at hl 1 rfl) ?_
  refine lv_dup hx hb dX12_put_21 rfl ?_
  refine va_get (D := (dC, dI)) (ci := 12) (v := .int 13) (C := RX12) (T := TX12) (N := 87) hx hb hts in_m_put12_12 hown hK hP 0 rfl rfl 2 (by decide) (hts (.fieldLink RX12 204 "LanternHouseModel" "taped" "I") (by decide +kernel)) (fun _ h9 => h9) (zset_eq (by rw [hlaM]; decide)) dX12_put_22 ?_
  refine lv_iconst (v := 1) hx hb dX12_put_25 (by decide) ?_
  refine lv_iadd hx hb dX12_put_26 ?_
  refine lv_topi (fun x8 ex8 => ?_)
  obtain rfl : x8 = 14 := ex8.trans (by decide)
  refine va_put (D := (dC, dI)) (ci := 12) (v := .int 14) (ty := .int) (C := RX12) (T := TX12) (N := 87) hx hb hts in_m_put12_12 tyX12 tyX12_ok nmX12 hown hK hP hD hS 0 rfl rfl 2 (by decide) (hts (.fieldLink RX12 204 "LanternHouseModel" "taped" "I") (by decide +kernel)) (fun _ h9 => h9) rfl (by decide +kernel) rfl rfl (by rw [(zset_len hlaM)]; decide) dX12_put_27 (fun H locs hP hD hS => ?_)
  have hP : va_P (dC, dI) vwCl [(aM, .inr (12, (List.set (List.set fsaM 2 (.int 13)) 2 (.int 14)))), (qB, .inl (cB, 3000, .inl g7))] H := hP
  have hD : va_D A [(aM, .inr (12, (List.set (List.set fsaM 2 (.int 13)) 2 (.int 14)))), (qB, .inl (cB, 3000, .inl g7))] := hD
  refine lv_iinc (v := 8) (lv' := [(2, .int 8), (0, .ref aM), (1, .int iW)]) hx hb dX12_put_30 hl (k := 0) rfl (by decide) (by decide) rfl (fun ls hl => ?_)
  refine lv_goto (tgt := 3) hx hb dX12_put_33 (by decide) ?_
  refine lv_iload_n hx hb dX12_put_3 rfl (lv_at hl 0 rfl) ?_
  refine lv_if_lt (tgt := 36) hx hb dX12_put_4 (by decide) (fun zc => absurd zc (by decide)) (fun _ => ?_)
  refine lv_aload_n hx hb dX12_put_7 rfl (lv_at hl 1 rfl) ?_
  refine va_get (D := (dC, dI)) (ci := 12) (v := .ref qB) (C := RX12) (T := TX12) (N := 87) hx hb hts in_m_put12_12 hown hK hP 0 rfl rfl 1 (by decide) (hts (.fieldLink RX12 13 "LanternHouseModel" "tape" "[B") (by decide +kernel)) (fun _ h9 => h9) (zset_ne (by decide) (zset_ne (by decide) haM_1)) dX12_put_8 ?_
  refine lv_aload_n hx hb dX12_put_11 rfl (lv_at hl 1 rfl) ?_
  refine va_get (D := (dC, dI)) (ci := 12) (v := .int 14) (C := RX12) (T := TX12) (N := 87) hx hb hts in_m_put12_12 hown hK hP 0 rfl rfl 2 (by decide) (hts (.fieldLink RX12 204 "LanternHouseModel" "taped" "I") (by decide +kernel)) (fun _ h9 => h9) (zset_eq (by rw [(zset_len hlaM)]; decide)) dX12_put_12 ?_
  refine lv_iload_n hx hb dX12_put_15 rfl (lv_at hl 2 rfl) ?_
  refine lv_iload_n hx hb dX12_put_16 rfl (lv_at hl 0 rfl) ?_
  refine lv_ishr hx hb dX12_put_17 ?_
  refine lv_topi (fun x9 ex9 => ?_)
  refine lv_i2b hx hb dX12_put_18 rfl ?_
  refine lv_topi (fun x10 ex10 => ?_)
  refine z_bast hx hb hK hP hD hS 1 0 rfl rfl (show ¬ ((14 : Int32) < 0 ∨ 3000 ≤ (14 : Int32).toNatClampNeg) from by decide) dX12_put_19 (fun H locs g11 hg11 hP hD hS => ?_)
  have hP : va_P (dC, dI) vwCl [(aM, .inr (12, (List.set (List.set fsaM 2 (.int 13)) 2 (.int 14)))), (qB, .inl (cB, 3000, .inl g11))] H := hP
  have hD : va_D A [(aM, .inr (12, (List.set (List.set fsaM 2 (.int 13)) 2 (.int 14)))), (qB, .inl (cB, 3000, .inl g11))] := hD
  refine lv_aload_n hx hb dX12_put_20 rfl (lv_at hl 1 rfl) ?_
  refine lv_dup hx hb dX12_put_21 rfl ?_
  refine va_get (D := (dC, dI)) (ci := 12) (v := .int 14) (C := RX12) (T := TX12) (N := 87) hx hb hts in_m_put12_12 hown hK hP 0 rfl rfl 2 (by decide) (hts (.fieldLink RX12 204 "LanternHouseModel" "taped" "I") (by decide +kernel)) (fun _ h9 => h9) (zset_eq (by rw [(zset_len hlaM)]; decide)) dX12_put_22 ?_
  refine lv_iconst (v := 1) hx hb dX12_put_25 (by decide) ?_
  refine lv_iadd hx hb dX12_put_26 ?_
  refine lv_topi (fun x12 ex12 => ?_)
  obtain rfl : x12 = 15 := ex12.trans (by decide)
  refine va_put (D := (dC, dI)) (ci := 12) (v := .int 15) (ty := .int) (C := RX12) (T := TX12) (N := 87) hx hb hts in_m_put12_12 tyX12 tyX12_ok nmX12 hown hK hP hD hS 0 rfl rfl 2 (by decide) (hts (.fieldLink RX12 204 "LanternHouseModel" "taped" "I") (by decide +kernel)) (fun _ h9 => h9) rfl (by decide +kernel) rfl rfl (by rw [(zset_len (zset_len hlaM))]; decide) dX12_put_27 (fun H locs hP hD hS => ?_)
  have hP : va_P (dC, dI) vwCl [(aM, .inr (12, (List.set (List.set (List.set fsaM 2 (.int 13)) 2 (.int 14)) 2 (.int 15)))), (qB, .inl (cB, 3000, .inl g11))] H := hP
  have hD : va_D A [(aM, .inr (12, (List.set (List.set (List.set fsaM 2 (.int 13)) 2 (.int 14)) 2 (.int 15)))), (qB, .inl (cB, 3000, .inl g11))] := hD
  refine lv_iinc (v := 0) (lv' := [(2, .int 0), (0, .ref aM), (1, .int iW)]) hx hb dX12_put_30 hl (k := 0) rfl (by decide) (by decide) rfl (fun ls hl => ?_)
  refine lv_goto (tgt := 3) hx hb dX12_put_33 (by decide) ?_
  refine lv_iload_n hx hb dX12_put_3 rfl (lv_at hl 0 rfl) ?_
  refine lv_if_lt (tgt := 36) hx hb dX12_put_4 (by decide) (fun zc => absurd zc (by decide)) (fun _ => ?_)
  refine lv_aload_n hx hb dX12_put_7 rfl (lv_at hl 1 rfl) ?_
  refine va_get (D := (dC, dI)) (ci := 12) (v := .ref qB) (C := RX12) (T := TX12) (N := 87) hx hb hts in_m_put12_12 hown hK hP 0 rfl rfl 1 (by decide) (hts (.fieldLink RX12 13 "LanternHouseModel" "tape" "[B") (by decide +kernel)) (fun _ h9 => h9) (zset_ne (by decide) (zset_ne (by decide) (zset_ne (by decide) haM_1))) dX12_put_8 ?_
  refine lv_aload_n hx hb dX12_put_11 rfl (lv_at hl 1 rfl) ?_
  refine va_get (D := (dC, dI)) (ci := 12) (v := .int 15) (C := RX12) (T := TX12) (N := 87) hx hb hts in_m_put12_12 hown hK hP 0 rfl rfl 2 (by decide) (hts (.fieldLink RX12 204 "LanternHouseModel" "taped" "I") (by decide +kernel)) (fun _ h9 => h9) (zset_eq (by rw [(zset_len (zset_len hlaM))]; decide)) dX12_put_12 ?_
  refine lv_iload_n hx hb dX12_put_15 rfl (lv_at hl 2 rfl) ?_
  refine lv_iload_n hx hb dX12_put_16 rfl (lv_at hl 0 rfl) ?_
  refine lv_ishr hx hb dX12_put_17 ?_
  refine lv_topi (fun x13 ex13 => ?_)
  refine lv_i2b hx hb dX12_put_18 rfl ?_
  refine lv_topi (fun x14 ex14 => ?_)
  refine z_bast hx hb hK hP hD hS 1 0 rfl rfl (show ¬ ((15 : Int32) < 0 ∨ 3000 ≤ (15 : Int32).toNatClampNeg) from by decide) dX12_put_19 (fun H locs g15 hg15 hP hD hS => ?_)
  have hP : va_P (dC, dI) vwCl [(aM, .inr (12, (List.set (List.set (List.set fsaM 2 (.int 13)) 2 (.int 14)) 2 (.int 15)))), (qB, .inl (cB, 3000, .inl g15))] H := hP
  have hD : va_D A [(aM, .inr (12, (List.set (List.set (List.set fsaM 2 (.int 13)) 2 (.int 14)) 2 (.int 15)))), (qB, .inl (cB, 3000, .inl g15))] := hD
  refine lv_aload_n hx hb dX12_put_20 rfl (lv_at hl 1 rfl) ?_
  refine lv_dup hx hb dX12_put_21 rfl ?_
  refine va_get (D := (dC, dI)) (ci := 12) (v := .int 15) (C := RX12) (T := TX12) (N := 87) hx hb hts in_m_put12_12 hown hK hP 0 rfl rfl 2 (by decide) (hts (.fieldLink RX12 204 "LanternHouseModel" "taped" "I") (by decide +kernel)) (fun _ h9 => h9) (zset_eq (by rw [(zset_len (zset_len hlaM))]; decide)) dX12_put_22 ?_
  refine lv_iconst (v := 1) hx hb dX12_put_25 (by decide) ?_
  refine lv_iadd hx hb dX12_put_26 ?_
  refine lv_topi (fun x16 ex16 => ?_)
  obtain rfl : x16 = 16 := ex16.trans (by decide)
  refine va_put (D := (dC, dI)) (ci := 12) (v := .int 16) (ty := .int) (C := RX12) (T := TX12) (N := 87) hx hb hts in_m_put12_12 tyX12 tyX12_ok nmX12 hown hK hP hD hS 0 rfl rfl 2 (by decide) (hts (.fieldLink RX12 204 "LanternHouseModel" "taped" "I") (by decide +kernel)) (fun _ h9 => h9) rfl (by decide +kernel) rfl rfl (by rw [(zset_len (zset_len (zset_len hlaM)))]; decide) dX12_put_27 (fun H locs hP hD hS => ?_)
  have hP : va_P (dC, dI) vwCl [(aM, .inr (12, (List.set (List.set (List.set (List.set fsaM 2 (.int 13)) 2 (.int 14)) 2 (.int 15)) 2 (.int 16)))), (qB, .inl (cB, 3000, .inl g15))] H := hP
  have hD : va_D A [(aM, .inr (12, (List.set (List.set (List.set (List.set fsaM 2 (.int 13)) 2 (.int 14)) 2 (.int 15)) 2 (.int 16)))), (qB, .inl (cB, 3000, .inl g15))] := hD
  refine lv_iinc (v := (-8)) (lv' := [(2, .int (-8)), (0, .ref aM), (1, .int iW)]) hx hb dX12_put_30 hl (k := 0) rfl (by decide) (by decide) rfl (fun ls hl => ?_)
  refine lv_goto (tgt := 3) hx hb dX12_put_33 (by decide) ?_
  refine lv_iload_n hx hb dX12_put_3 rfl (lv_at hl 0 rfl) ?_
  refine lv_if_lt (tgt := 36) hx hb dX12_put_4 (by decide) (fun _ => ?_) (fun zc => absurd zc (by decide))
  have hP9 : va_P (dC, dI) vwCl [(aM, .inr (12, (List.set (List.set (List.set (List.set fsaM 2 (.int 13)) 2 (.int 14)) 2 (.int 15)) 2 (.int 16)))), (qB, .inl (cB, 3000, .inl g15))] H := hP.sub [0, 1] rfl
  have hD9 : va_D A [(aM, .inr (12, (List.set (List.set (List.set (List.set fsaM 2 (.int 13)) 2 (.int 14)) 2 (.int 15)) 2 (.int 16)))), (qB, .inl (cB, 3000, .inl g15))] := hD.sub [0, 1] (by decide) rfl
  exact W.vret hx hb hr (fun t ht hW => ⟨⟨(), rfl, trivial, ⟨g15, (List.set (List.set (List.set (List.set fsaM 2 (.int 13)) 2 (.int 14)) 2 (.int 15)) 2 (.int 16)), (zset_len (zset_len (zset_len (zset_len hlaM)))), (fun j hj => ((zfr (by decide) hj).trans ((zfr (by decide) hj).trans ((zfr (by decide) hj).trans ((zfr (by decide) hj).trans rfl))))), (zset_eq (by rw [(zset_len (zset_len (zset_len hlaM)))]; decide)), by rw [ht]; exact hP9, hD9⟩⟩, hS.F ht⟩) hS.2.2 dX12_put_36

def zs_m_put16 : List Cond := .code yX12_put cX12_put 3 none :: (([.fieldLink RX12 13 "LanternHouseModel" "tape" "[B", .fieldLink RX12 204 "LanternHouseModel" "taped" "I"] : List Cond) ++ (wsX120 ++ []))
theorem gd_m_put16 : (zs_m_put16).all goodWord = true := by decide +kernel
theorem in_m_put16_12 : ∀ w ∈ wsX120, w ∈ zs_m_put16 := fun w h => List.mem_cons_of_mem _ (List.mem_append_right _ (List.mem_append_left _ h))
abbrev ws_m_put16 (cB cI cJ cZ cQ : ClassId) (aM qB : Nat) (iW : Int32) (fB : Nat → Int32) (fsaM : List Value) : va_W := [(aM, .inr (12, fsaM)), (qB, .inl (cB, 3000, .inl fB))]
set_option maxHeartbeats 4000000 in
set_option maxRecDepth 100000 in
theorem m_put16 (l : Launch) (dC : Nat → ClassId) (dI : Nat → Nat → Nat) (cB cI cJ cZ cQ : ClassId) (aM qB : Nat) (iW : Int32) (fB : Nat → Int32) (fsaM : List Value) (sz : Nat) (hlaM : fsaM.length = 87) (haM_1 : fsaM[1]? = some (.ref qB)) (haM_2 : fsaM[2]? = some (.int 16)) : Met l yX12_put zs_m_put16 ({ frames := 0, cells := 0, slots := 0, locals := 0 } : Room) (zPc [.ref aM, .int iW] (dC, dI) (zTY cB cI cJ cZ cQ) (ws_m_put16 cB cI cJ cZ cQ aM qB iW fB fsaM) sz) (va_Qv (fun (_ : Unit) => True) (fun (_ : Unit) (t : State) => ∃ (fB2 : Nat → Int32), ∃ (gsaM : List Value), gsaM.length = 87 ∧ (∀ j : Nat, ¬ j ∈ ([2] : List Nat) → gsaM[j]? = fsaM[j]?) ∧ gsaM[2]? = some (.int 20) ∧ va_P (dC, dI) vwCl [(aM, .inr (12, gsaM)), (qB, .inl (cB, 3000, .inl fB2))] t.heap ∧ va_D (va_A (ws_m_put16 cB cI cJ cZ cQ aM qB iW fB fsaM) sz) [(aM, .inr (12, gsaM)), (qB, .inl (cB, 3000, .inl fB2))]) (va_A (ws_m_put16 cB cI cJ cZ cQ aM qB iW fB fsaM) sz)) 0 0 (va_A (ws_m_put16 cB cI cJ cZ cQ aM qB iW fB fsaM) sz) := by
  refine Met.ofW (cc := cX12_put) (maxL := 3) (ret := none) (by decide) rfl ?_
  intro p e s m args below meth c s₁ B hml hv
  obtain ⟨rfl, hsz, hP0, hK, hO, hD0⟩ := hv
  have hx := B.exec
  have hb := B.bytes
  have hr := B.returns
  have hts := atoms_spec (ws := zs_m_put16) B.pre
  have hown : s.vm.findClass RX12 = some m.cls := findClass_of_methodNamed B.named
  have hlocks := B.notSynchronized
  subst hsz
  have hD8 := hD0.self (sz := s.heap.size)
  generalize hAe : va_A (ws_m_put16 cB cI cJ cZ cQ aM qB iW fB fsaM) s.heap.size = A at hD8 ⊢
  have hA : ∀ q : Nat, s.heap.size ≤ q → A q := fun q h => by rw [← hAe]; exact Or.inr h
  have hS : va_S A s.heap s.heap [] := va_S.rf
  have hP : va_P (dC, dI) vwCl [(aM, .inr (12, fsaM)), (qB, .inl (cB, 3000, .inl fB))] s.heap := hP0
  have hD : va_D A [(aM, .inr (12, fsaM)), (qB, .inl (cB, 3000, .inl fB))] := hD8
  have hl := lv_entry ([.ref aM, .int iW]) (n := 3) (Nat.le_of_ble_eq_true rfl)
  rw [lg_entry_eq]
  generalize (lg_sl ([.ref aM, .int iW]) ++ List.replicate (3 - (lg_sl ([.ref aM, .int iW])).length) Slot.unset).toArray = ls at hl ⊢
  have hl : lv_has ls 3 [(0, .ref aM), (1, .int iW)] := hl
  clear hP0 hD8 hD0
  refine zH0 (fun H hP hS => ?_) hP hS
  refine lv_bipush (v := 24) hx hb dX12_put_0 (by decide) ?_
  refine lv_istore_n (lv' := [(2, .int 24), (0, .ref aM), (1, .int iW)]) hx hb dX12_put_2 rfl hl (by decide) rfl (fun ls hl => ?_)
  refine lv_iload_n hx hb dX12_put_3 rfl (lv_at hl 0 rfl) ?_
  refine lv_if_lt (tgt := 36) hx hb dX12_put_4 (by decide) (fun zc => absurd zc (by decide)) (fun _ => ?_)
  refine lv_aload_n hx hb dX12_put_7 rfl (lv_at hl 1 rfl) ?_
  refine va_get (D := (dC, dI)) (ci := 12) (v := .ref qB) (C := RX12) (T := TX12) (N := 87) hx hb hts in_m_put16_12 hown hK hP 0 rfl rfl 1 (by decide) (hts (.fieldLink RX12 13 "LanternHouseModel" "tape" "[B") (by decide +kernel)) (fun _ h9 => h9) haM_1 dX12_put_8 ?_
  refine lv_aload_n hx hb dX12_put_11 rfl (lv_at hl 1 rfl) ?_
  refine va_get (D := (dC, dI)) (ci := 12) (v := .int 16) (C := RX12) (T := TX12) (N := 87) hx hb hts in_m_put16_12 hown hK hP 0 rfl rfl 2 (by decide) (hts (.fieldLink RX12 204 "LanternHouseModel" "taped" "I") (by decide +kernel)) (fun _ h9 => h9) haM_2 dX12_put_12 ?_
  refine lv_iload_n hx hb dX12_put_15 rfl (lv_at hl 2 rfl) ?_
  refine lv_iload_n hx hb dX12_put_16 rfl (lv_at hl 0 rfl) ?_
  refine lv_ishr hx hb dX12_put_17 ?_
  refine lv_topi (fun x1 ex1 => ?_)
  refine lv_i2b hx hb dX12_put_18 rfl ?_
  refine lv_topi (fun x2 ex2 => ?_)
  refine z_bast hx hb hK hP hD hS 1 0 rfl rfl (show ¬ ((16 : Int32) < 0 ∨ 3000 ≤ (16 : Int32).toNatClampNeg) from by decide) dX12_put_19 (fun H locs g3 hg3 hP hD hS => ?_)
  have hP : va_P (dC, dI) vwCl [(aM, .inr (12, fsaM)), (qB, .inl (cB, 3000, .inl g3))] H := hP
  have hD : va_D A [(aM, .inr (12, fsaM)), (qB, .inl (cB, 3000, .inl g3))] := hD
  refine lv_aload_n hx hb dX12_put_20 rfl (lv_at hl 1 rfl) ?_
  refine lv_dup hx hb dX12_put_21 rfl ?_
  refine va_get (D := (dC, dI)) (ci := 12) (v := .int 16) (C := RX12) (T := TX12) (N := 87) hx hb hts in_m_put16_12 hown hK hP 0 rfl rfl 2 (by decide) (hts (.fieldLink RX12 204 "LanternHouseModel" "taped" "I") (by decide +kernel)) (fun _ h9 => h9) haM_2 dX12_put_22 ?_
  refine lv_iconst (v := 1) hx hb dX12_put_25 (by decide) ?_
  refine lv_iadd hx hb dX12_put_26 ?_
  refine lv_topi (fun x4 ex4 => ?_)
  obtain rfl : x4 = 17 := ex4.trans (by decide)
  refine va_put (D := (dC, dI)) (ci := 12) (v := .int 17) (ty := .int) (C := RX12) (T := TX12) (N := 87) hx hb hts in_m_put16_12 tyX12 tyX12_ok nmX12 hown hK hP hD hS 0 rfl rfl 2 (by decide) (hts (.fieldLink RX12 204 "LanternHouseModel" "taped" "I") (by decide +kernel)) (fun _ h9 => h9) rfl (by decide +kernel) rfl rfl (by rw [hlaM]; decide) dX12_put_27 (fun H locs hP hD hS => ?_)
  have hP : va_P (dC, dI) vwCl [(aM, .inr (12, (List.set fsaM 2 (.int 17)))), (qB, .inl (cB, 3000, .inl g3))] H := hP
  have hD : va_D A [(aM, .inr (12, (List.set fsaM 2 (.int 17)))), (qB, .inl (cB, 3000, .inl g3))] := hD
  refine lv_iinc (v := 16) (lv' := [(2, .int 16), (0, .ref aM), (1, .int iW)]) hx hb dX12_put_30 hl (k := 0) rfl (by decide) (by decide) rfl (fun ls hl => ?_)
  refine lv_goto (tgt := 3) hx hb dX12_put_33 (by decide) ?_
  refine lv_iload_n hx hb dX12_put_3 rfl (lv_at hl 0 rfl) ?_
  refine lv_if_lt (tgt := 36) hx hb dX12_put_4 (by decide) (fun zc => absurd zc (by decide)) (fun _ => ?_)
  refine lv_aload_n hx hb dX12_put_7 rfl (lv_at hl 1 rfl) ?_
  refine va_get (D := (dC, dI)) (ci := 12) (v := .ref qB) (C := RX12) (T := TX12) (N := 87) hx hb hts in_m_put16_12 hown hK hP 0 rfl rfl 1 (by decide) (hts (.fieldLink RX12 13 "LanternHouseModel" "tape" "[B") (by decide +kernel)) (fun _ h9 => h9) (zset_ne (by decide) haM_1) dX12_put_8 ?_
  refine lv_aload_n hx hb dX12_put_11 rfl (lv_at hl 1 rfl) ?_
  refine va_get (D := (dC, dI)) (ci := 12) (v := .int 17) (C := RX12) (T := TX12) (N := 87) hx hb hts in_m_put16_12 hown hK hP 0 rfl rfl 2 (by decide) (hts (.fieldLink RX12 204 "LanternHouseModel" "taped" "I") (by decide +kernel)) (fun _ h9 => h9) (zset_eq (by rw [hlaM]; decide)) dX12_put_12 ?_
  refine lv_iload_n hx hb dX12_put_15 rfl (lv_at hl 2 rfl) ?_
  refine lv_iload_n hx hb dX12_put_16 rfl (lv_at hl 0 rfl) ?_
  refine lv_ishr hx hb dX12_put_17 ?_
  refine lv_topi (fun x5 ex5 => ?_)
  refine lv_i2b hx hb dX12_put_18 rfl ?_
  refine lv_topi (fun x6 ex6 => ?_)
  refine z_bast hx hb hK hP hD hS 1 0 rfl rfl (show ¬ ((17 : Int32) < 0 ∨ 3000 ≤ (17 : Int32).toNatClampNeg) from by decide) dX12_put_19 (fun H locs g7 hg7 hP hD hS => ?_)
  have hP : va_P (dC, dI) vwCl [(aM, .inr (12, (List.set fsaM 2 (.int 17)))), (qB, .inl (cB, 3000, .inl g7))] H := hP
  have hD : va_D A [(aM, .inr (12, (List.set fsaM 2 (.int 17)))), (qB, .inl (cB, 3000, .inl g7))] := hD
  refine lv_aload_n hx hb dX12_put_20 rfl (lv_at hl 1 rfl) ?_
  refine lv_dup hx hb dX12_put_21 rfl ?_
  refine va_get (D := (dC, dI)) (ci := 12) (v := .int 17) (C := RX12) (T := TX12) (N := 87) hx hb hts in_m_put16_12 hown hK hP 0 rfl rfl 2 (by decide) (hts (.fieldLink RX12 204 "LanternHouseModel" "taped" "I") (by decide +kernel)) (fun _ h9 => h9) (zset_eq (by rw [hlaM]; decide)) dX12_put_22 ?_
  refine lv_iconst (v := 1) hx hb dX12_put_25 (by decide) ?_
  refine lv_iadd hx hb dX12_put_26 ?_
  refine lv_topi (fun x8 ex8 => ?_)
  obtain rfl : x8 = 18 := ex8.trans (by decide)
  refine va_put (D := (dC, dI)) (ci := 12) (v := .int 18) (ty := .int) (C := RX12) (T := TX12) (N := 87) hx hb hts in_m_put16_12 tyX12 tyX12_ok nmX12 hown hK hP hD hS 0 rfl rfl 2 (by decide) (hts (.fieldLink RX12 204 "LanternHouseModel" "taped" "I") (by decide +kernel)) (fun _ h9 => h9) rfl (by decide +kernel) rfl rfl (by rw [(zset_len hlaM)]; decide) dX12_put_27 (fun H locs hP hD hS => ?_)
  have hP : va_P (dC, dI) vwCl [(aM, .inr (12, (List.set (List.set fsaM 2 (.int 17)) 2 (.int 18)))), (qB, .inl (cB, 3000, .inl g7))] H := hP
  have hD : va_D A [(aM, .inr (12, (List.set (List.set fsaM 2 (.int 17)) 2 (.int 18)))), (qB, .inl (cB, 3000, .inl g7))] := hD
  refine lv_iinc (v := 8) (lv' := [(2, .int 8), (0, .ref aM), (1, .int iW)]) hx hb dX12_put_30 hl (k := 0) rfl (by decide) (by decide) rfl (fun ls hl => ?_)
  refine lv_goto (tgt := 3) hx hb dX12_put_33 (by decide) ?_
  refine lv_iload_n hx hb dX12_put_3 rfl (lv_at hl 0 rfl) ?_
  refine lv_if_lt (tgt := 36) hx hb dX12_put_4 (by decide) (fun zc => absurd zc (by decide)) (fun _ => ?_)
  refine lv_aload_n hx hb dX12_put_7 rfl (lv_at hl 1 rfl) ?_
  refine va_get (D := (dC, dI)) (ci := 12) (v := .ref qB) (C := RX12) (T := TX12) (N := 87) hx hb hts in_m_put16_12 hown hK hP 0 rfl rfl 1 (by decide) (hts (.fieldLink RX12 13 "LanternHouseModel" "tape" "[B") (by decide +kernel)) (fun _ h9 => h9) (zset_ne (by decide) (zset_ne (by decide) haM_1)) dX12_put_8 ?_
  refine lv_aload_n hx hb dX12_put_11 rfl (lv_at hl 1 rfl) ?_
  refine va_get (D := (dC, dI)) (ci := 12) (v := .int 18) (C := RX12) (T := TX12) (N := 87) hx hb hts in_m_put16_12 hown hK hP 0 rfl rfl 2 (by decide) (hts (.fieldLink RX12 204 "LanternHouseModel" "taped" "I") (by decide +kernel)) (fun _ h9 => h9) (zset_eq (by rw [(zset_len hlaM)]; decide)) dX12_put_12 ?_
  refine lv_iload_n hx hb dX12_put_15 rfl (lv_at hl 2 rfl) ?_
  refine lv_iload_n hx hb dX12_put_16 rfl (lv_at hl 0 rfl) ?_
  refine lv_ishr hx hb dX12_put_17 ?_
  refine lv_topi (fun x9 ex9 => ?_)
  refine lv_i2b hx hb dX12_put_18 rfl ?_
  refine lv_topi (fun x10 ex10 => ?_)
  refine z_bast hx hb hK hP hD hS 1 0 rfl rfl (show ¬ ((18 : Int32) < 0 ∨ 3000 ≤ (18 : Int32).toNatClampNeg) from by decide) dX12_put_19 (fun H locs g11 hg11 hP hD hS => ?_)
  have hP : va_P (dC, dI) vwCl [(aM, .inr (12, (List.set (List.set fsaM 2 (.int 17)) 2 (.int 18)))), (qB, .inl (cB, 3000, .inl g11))] H := hP
  have hD : va_D A [(aM, .inr (12, (List.set (List.set fsaM 2 (.int 17)) 2 (.int 18)))), (qB, .inl (cB, 3000, .inl g11))] := hD
  refine lv_aload_n hx hb dX12_put_20 rfl (lv_at hl 1 rfl) ?_
  refine lv_dup hx hb dX12_put_21 rfl ?_
  refine va_get (D := (dC, dI)) (ci := 12) (v := .int 18) (C := RX12) (T := TX12) (N := 87) hx hb hts in_m_put16_12 hown hK hP 0 rfl rfl 2 (by decide) (hts (.fieldLink RX12 204 "LanternHouseModel" "taped" "I") (by decide +kernel)) (fun _ h9 => h9) (zset_eq (by rw [(zset_len hlaM)]; decide)) dX12_put_22 ?_
  refine lv_iconst (v := 1) hx hb dX12_put_25 (by decide) ?_
  refine lv_iadd hx hb dX12_put_26 ?_
  refine lv_topi (fun x12 ex12 => ?_)
  obtain rfl : x12 = 19 := ex12.trans (by decide)
  refine va_put (D := (dC, dI)) (ci := 12) (v := .int 19) (ty := .int) (C := RX12) (T := TX12) (N := 87) hx hb hts in_m_put16_12 tyX12 tyX12_ok nmX12 hown hK hP hD hS 0 rfl rfl 2 (by decide) (hts (.fieldLink RX12 204 "LanternHouseModel" "taped" "I") (by decide +kernel)) (fun _ h9 => h9) rfl (by decide +kernel) rfl rfl (by rw [(zset_len (zset_len hlaM))]; decide) dX12_put_27 (fun H locs hP hD hS => ?_)
  have hP : va_P (dC, dI) vwCl [(aM, .inr (12, (List.set (List.set (List.set fsaM 2 (.int 17)) 2 (.int 18)) 2 (.int 19)))), (qB, .inl (cB, 3000, .inl g11))] H := hP
  have hD : va_D A [(aM, .inr (12, (List.set (List.set (List.set fsaM 2 (.int 17)) 2 (.int 18)) 2 (.int 19)))), (qB, .inl (cB, 3000, .inl g11))] := hD
  refine lv_iinc (v := 0) (lv' := [(2, .int 0), (0, .ref aM), (1, .int iW)]) hx hb dX12_put_30 hl (k := 0) rfl (by decide) (by decide) rfl (fun ls hl => ?_)
  refine lv_goto (tgt := 3) hx hb dX12_put_33 (by decide) ?_
  refine lv_iload_n hx hb dX12_put_3 rfl (lv_at hl 0 rfl) ?_
  refine lv_if_lt (tgt := 36) hx hb dX12_put_4 (by decide) (fun zc => absurd zc (by decide)) (fun _ => ?_)
  refine lv_aload_n hx hb dX12_put_7 rfl (lv_at hl 1 rfl) ?_
  refine va_get (D := (dC, dI)) (ci := 12) (v := .ref qB) (C := RX12) (T := TX12) (N := 87) hx hb hts in_m_put16_12 hown hK hP 0 rfl rfl 1 (by decide) (hts (.fieldLink RX12 13 "LanternHouseModel" "tape" "[B") (by decide +kernel)) (fun _ h9 => h9) (zset_ne (by decide) (zset_ne (by decide) (zset_ne (by decide) haM_1))) dX12_put_8 ?_
  refine lv_aload_n hx hb dX12_put_11 rfl (lv_at hl 1 rfl) ?_
  refine va_get (D := (dC, dI)) (ci := 12) (v := .int 19) (C := RX12) (T := TX12) (N := 87) hx hb hts in_m_put16_12 hown hK hP 0 rfl rfl 2 (by decide) (hts (.fieldLink RX12 204 "LanternHouseModel" "taped" "I") (by decide +kernel)) (fun _ h9 => h9) (zset_eq (by rw [(zset_len (zset_len hlaM))]; decide)) dX12_put_12 ?_
  refine lv_iload_n hx hb dX12_put_15 rfl (lv_at hl 2 rfl) ?_
  refine lv_iload_n hx hb dX12_put_16 rfl (lv_at hl 0 rfl) ?_
  refine lv_ishr hx hb dX12_put_17 ?_
  refine lv_topi (fun x13 ex13 => ?_)
  refine lv_i2b hx hb dX12_put_18 rfl ?_
  refine lv_topi (fun x14 ex14 => ?_)
  refine z_bast hx hb hK hP hD hS 1 0 rfl rfl (show ¬ ((19 : Int32) < 0 ∨ 3000 ≤ (19 : Int32).toNatClampNeg) from by decide) dX12_put_19 (fun H locs g15 hg15 hP hD hS => ?_)
  have hP : va_P (dC, dI) vwCl [(aM, .inr (12, (List.set (List.set (List.set fsaM 2 (.int 17)) 2 (.int 18)) 2 (.int 19)))), (qB, .inl (cB, 3000, .inl g15))] H := hP
  have hD : va_D A [(aM, .inr (12, (List.set (List.set (List.set fsaM 2 (.int 17)) 2 (.int 18)) 2 (.int 19)))), (qB, .inl (cB, 3000, .inl g15))] := hD
  refine lv_aload_n hx hb dX12_put_20 rfl (lv_at hl 1 rfl) ?_
  refine lv_dup hx hb dX12_put_21 rfl ?_
  refine va_get (D := (dC, dI)) (ci := 12) (v := .int 19) (C := RX12) (T := TX12) (N := 87) hx hb hts in_m_put16_12 hown hK hP 0 rfl rfl 2 (by decide) (hts (.fieldLink RX12 204 "LanternHouseModel" "taped" "I") (by decide +kernel)) (fun _ h9 => h9) (zset_eq (by rw [(zset_len (zset_len hlaM))]; decide)) dX12_put_22 ?_
  refine lv_iconst (v := 1) hx hb dX12_put_25 (by decide) ?_
  refine lv_iadd hx hb dX12_put_26 ?_
  refine lv_topi (fun x16 ex16 => ?_)
  obtain rfl : x16 = 20 := ex16.trans (by decide)
  refine va_put (D := (dC, dI)) (ci := 12) (v := .int 20) (ty := .int) (C := RX12) (T := TX12) (N := 87) hx hb hts in_m_put16_12 tyX12 tyX12_ok nmX12 hown hK hP hD hS 0 rfl rfl 2 (by decide) (hts (.fieldLink RX12 204 "LanternHouseModel" "taped" "I") (by decide +kernel)) (fun _ h9 => h9) rfl (by decide +kernel) rfl rfl (by rw [(zset_len (zset_len (zset_len hlaM)))]; decide) dX12_put_27 (fun H locs hP hD hS => ?_)
  have hP : va_P (dC, dI) vwCl [(aM, .inr (12, (List.set (List.set (List.set (List.set fsaM 2 (.int 17)) 2 (.int 18)) 2 (.int 19)) 2 (.int 20)))), (qB, .inl (cB, 3000, .inl g15))] H := hP
  have hD : va_D A [(aM, .inr (12, (List.set (List.set (List.set (List.set fsaM 2 (.int 17)) 2 (.int 18)) 2 (.int 19)) 2 (.int 20)))), (qB, .inl (cB, 3000, .inl g15))] := hD
  refine lv_iinc (v := (-8)) (lv' := [(2, .int (-8)), (0, .ref aM), (1, .int iW)]) hx hb dX12_put_30 hl (k := 0) rfl (by decide) (by decide) rfl (fun ls hl => ?_)
  refine lv_goto (tgt := 3) hx hb dX12_put_33 (by decide) ?_
  refine lv_iload_n hx hb dX12_put_3 rfl (lv_at hl 0 rfl) ?_
  refine lv_if_lt (tgt := 36) hx hb dX12_put_4 (by decide) (fun _ => ?_) (fun zc => absurd zc (by decide))
  have hP9 : va_P (dC, dI) vwCl [(aM, .inr (12, (List.set (List.set (List.set (List.set fsaM 2 (.int 17)) 2 (.int 18)) 2 (.int 19)) 2 (.int 20)))), (qB, .inl (cB, 3000, .inl g15))] H := hP.sub [0, 1] rfl
  have hD9 : va_D A [(aM, .inr (12, (List.set (List.set (List.set (List.set fsaM 2 (.int 17)) 2 (.int 18)) 2 (.int 19)) 2 (.int 20)))), (qB, .inl (cB, 3000, .inl g15))] := hD.sub [0, 1] (by decide) rfl
  exact W.vret hx hb hr (fun t ht hW => ⟨⟨(), rfl, trivial, ⟨g15, (List.set (List.set (List.set (List.set fsaM 2 (.int 17)) 2 (.int 18)) 2 (.int 19)) 2 (.int 20)), (zset_len (zset_len (zset_len (zset_len hlaM)))), (fun j hj => ((zfr (by decide) hj).trans ((zfr (by decide) hj).trans ((zfr (by decide) hj).trans ((zfr (by decide) hj).trans rfl))))), (zset_eq (by rw [(zset_len (zset_len (zset_len hlaM)))]; decide)), by rw [ht]; exact hP9, hD9⟩⟩, hS.F ht⟩) hS.2.2 dX12_put_36

