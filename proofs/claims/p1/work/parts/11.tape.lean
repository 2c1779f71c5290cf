def zs_c_put0 : List Cond := .code yX9_put cX9_put 3 none :: (([.fieldLink RX9 15 "LanternHouse$Tape" "length" "I", .fieldLink RX9 11 "LanternHouse$Tape" "bytes" "[B"] : List Cond) ++ (wsX90 ++ []))
theorem gd_c_put0 : (zs_c_put0).all goodWord = true := by decide +kernel
theorem in_c_put0_9 : ∀ w ∈ wsX90, w ∈ zs_c_put0 := fun w h => List.mem_cons_of_mem _ (List.mem_append_right _ (List.mem_append_left _ h))
abbrev ws_c_put0 (cB cI cJ cZ cQ : ClassId) (aT qB : Nat) (iW : Int32) (fB : Nat → Int32) (fsaT : List Value) : va_W := [(aT, .inr (9, fsaT)), (qB, .inl (cB, 3000, .inl fB))]
set_option maxHeartbeats 4000000 in
set_option maxRecDepth 100000 in
theorem c_put0 (l : Launch) (dC : Nat → ClassId) (dI : Nat → Nat → Nat) (cB cI cJ cZ cQ : ClassId) (aT qB : Nat) (iW : Int32) (fB : Nat → Int32) (fsaT : List Value) (sz : Nat) (hlaT : fsaT.length = 2) (haT_0 : fsaT[0]? = some (.ref qB)) (haT_1 : fsaT[1]? = some (.int 0)) : Met l yX9_put zs_c_put0 ({ frames := 0, cells := 0, slots := 0, locals := 0 } : Room) (zPc [.ref aT, .int iW] (dC, dI) (zTY cB cI cJ cZ cQ) (ws_c_put0 cB cI cJ cZ cQ aT qB iW fB fsaT) sz) (va_Qv (fun (_ : Unit) => True) (fun (_ : Unit) (t : State) => ∃ (fB2 : Nat → Int32), ∃ (gsaT : List Value), gsaT.length = 2 ∧ (∀ j : Nat, ¬ j ∈ ([1] : List Nat) → gsaT[j]? = fsaT[j]?) ∧ gsaT[1]? = some (.int 4) ∧ va_P (dC, dI) vwCl [(aT, .inr (9, gsaT)), (qB, .inl (cB, 3000, .inl fB2))] t.heap ∧ va_D (va_A (ws_c_put0 cB cI cJ cZ cQ aT qB iW fB fsaT) sz) [(aT, .inr (9, gsaT)), (qB, .inl (cB, 3000, .inl fB2))]) (va_A (ws_c_put0 cB cI cJ cZ cQ aT qB iW fB fsaT) sz)) 0 0 (va_A (ws_c_put0 cB cI cJ cZ cQ aT qB iW fB fsaT) sz) := by
  refine Met.ofW (cc := cX9_put) (maxL := 3) (ret := none) (by decide) rfl ?_
  intro p e s m args below meth c s₁ B hml hv
  obtain ⟨rfl, hsz, hP0, hK, hO, hD0⟩ := hv
  have hx := B.exec
  have hb := B.bytes
  have hr := B.returns
  have hts := atoms_spec (ws := zs_c_put0) B.pre
  have hown : s.vm.findClass RX9 = some m.cls := findClass_of_methodNamed B.named
  have hlocks := B.notSynchronized
  subst hsz
  have hD8 := hD0.self (sz := s.heap.size)
  generalize hAe : va_A (ws_c_put0 cB cI cJ cZ cQ aT qB iW fB fsaT) s.heap.size = A at hD8 ⊢
  have hA : ∀ q : Nat, s.heap.size ≤ q → A q := fun q h => by rw [← hAe]; exact Or.inr h
  have hS : va_S A s.heap s.heap [] := va_S.rf
  have hP : va_P (dC, dI) vwCl [(aT, .inr (9, fsaT)), (qB, .inl (cB, 3000, .inl fB))] s.heap := hP0
  have hD : va_D A [(aT, .inr (9, fsaT)), (qB, .inl (cB, 3000, .inl fB))] := hD8
  have hl := lv_entry ([.ref aT, .int iW]) (n := 3) (Nat.le_of_ble_eq_true rfl)
  rw [lg_entry_eq]
  generalize (lg_sl ([.ref aT, .int iW]) ++ List.replicate (3 - (lg_sl ([.ref aT, .int iW])).length) Slot.unset).toArray = ls at hl ⊢
  have hl : lv_has ls 3 [(0, .ref aT), (1, .int iW)] := hl
  clear hP0 hD8 hD0
  refine zH0 (fun H hP hS => ?_) hP hS
  refine lv_bipush (v := 24) hx hb dX9_put_0 (by decide) ?_
  refine lv_istore_n (lv' := [(2, .int 24), (0, .ref aT), (1, .int iW)]) hx hb dX9_put_2 rfl hl (by decide) rfl (fun ls hl => ?_)
  refine lv_iload_n hx hb dX9_put_3 rfl (lv_at hl 0 rfl) ?_
  refine lv_if_lt (tgt := 46) hx hb dX9_put_4 (by decide) (fun zc => absurd zc (by decide)) (fun _ => ?_)
  refine lv_aload_n hx hb dX9_put_7 rfl (lv_at hl 1 rfl) ?_
  refine va_get (D := (dC, dI)) (ci := 9) (v := .int 0) (C := RX9) (T := TX9) (N := 2) hx hb hts in_c_put0_9 hown hK hP 0 rfl rfl 1 (by decide) (hts (.fieldLink RX9 15 "LanternHouse$Tape" "length" "I") (by decide +kernel)) (fun _ h9 => h9) haT_1 dX9_put_8 ?_
  refine lv_sipush (v := 3000) hx hb dX9_put_11 (by decide) ?_
  refine lv_icmp_ge (tgt := 46) hx hb dX9_put_14 (by decide) (fun zc => absurd zc (by decide)) (fun _ => ?_)
  refine lv_aload_n hx hb dX9_put_17 rfl (lv_at hl 1 rfl) ?_
  refine va_get (D := (dC, dI)) (ci := 9) (v := .ref qB) (C := RX9) (T := TX9) (N := 2) hx hb hts in_c_put0_9 hown hK hP 0 rfl rfl 0 (by decide) (hts (.fieldLink RX9 11 "LanternHouse$Tape" "bytes" "[B") (by decide +kernel)) (fun _ h9 => h9) haT_0 dX9_put_18 ?_
  refine lv_aload_n hx hb dX9_put_21 rfl (lv_at hl 1 rfl) ?_
  refine va_get (D := (dC, dI)) (ci := 9) (v := .int 0) (C := RX9) (T := TX9) (N := 2) hx hb hts in_c_put0_9 hown hK hP 0 rfl rfl 1 (by decide) (hts (.fieldLink RX9 15 "LanternHouse$Tape" "length" "I") (by decide +kernel)) (fun _ h9 => h9) haT_1 dX9_put_22 ?_
  refine lv_iload_n hx hb dX9_put_25 rfl (lv_at hl 2 rfl) ?_
  refine lv_iload_n hx hb dX9_put_26 rfl (lv_at hl 0 rfl) ?_
  refine lv_ishr hx hb dX9_put_27 ?_
  refine lv_topi (fun x1 ex1 => ?_)
  refine lv_i2b hx hb dX9_put_28 rfl ?_
  refine lv_topi (fun x2 ex2 => ?_)
  refine z_bast hx hb hK hP hD hS 1 0 rfl rfl (show ¬ ((0 : Int32) < 0 ∨ 3000 ≤ (0 : Int32).toNatClampNeg) from by decide) dX9_put_29 (fun H locs g3 hg3 hP hD hS => ?_)
  have hP : va_P (dC, dI) vwCl [(aT, .inr (9, fsaT)), (qB, .inl (cB, 3000, .inl g3))] H := hP
  have hD : va_D A [(aT, .inr (9, fsaT)), (qB, .inl (cB, 3000, .inl g3))] := hD
  refine lv_aload_n hx hb dX9_put_30 rfl (lv_at hl 1 rfl) ?_
  refine lv_dup hx hb dX9_put_31 rfl ?_
  refine va_get (D := (dC, dI)) (ci := 9) (v := .int 0) (C := RX9) (T := TX9) (N := 2) hx hb hts in_c_put0_9 hown hK hP 0 rfl rfl 1 (by decide) (hts (.fieldLink RX9 15 "LanternHouse$Tape" "length" "I") (by decide +kernel)) (fun _ h9 => h9) haT_1 dX9_put_32 ?_
  refine lv_iconst (v := 1) hx hb dX9_put_35 (by decide) ?_
  refine lv_iadd hx hb dX9_put_36 ?_
  refine lv_topi (fun x4 ex4 => ?_)
  obtain rfl : x4 = 1 := ex4.trans (by decide)
  refine va_put (D := (dC, dI)) (ci := 9) (v := .int 1) (ty := .int) (C := RX9) (T := TX9) (N := 2) hx hb hts in_c_put0_9 tyX9 tyX9_ok nmX9 hown hK hP hD hS 0 rfl rfl 1 (by decide) (hts (.fieldLink RX9 15 "LanternHouse$Tape" "length" "I") (by decide +kernel)) (fun _ h9 => h9) rfl (by decide +kernel) rfl rfl (by rw [hlaT]; decide) dX9_put_37 (fun H locs hP hD hS => ?_)
  have hP : va_P (dC, dI) vwCl [(aT, .inr (9, (List.set fsaT 1 (.int 1)))), (qB, .inl (cB, 3000, .inl g3))] H := hP
  have hD : va_D A [(aT, .inr (9, (List.set fsaT 1 (.int 1)))), (qB, .inl (cB, 3000, .inl g3))] := hD
  refine lv_iinc (v := 16) (lv' := [(2, .int 16), (0, .ref aT), (1, .int iW)]) hx hb dX9_put_40 hl (k := 0) rfl (by decide) (by decide) rfl (fun ls hl => ?_)
  refine lv_goto (tgt := 3) hx hb dX9_put_43 (by decide) ?_
  refine lv_iload_n hx hb dX9_put_3 rfl (lv_at hl 0 rfl) ?_
  refine lv_if_lt (tgt := 46) hx hb dX9_put_4 (by decide) (fun zc => absurd zc (by decide)) (fun _ => ?_)
  refine lv_aload_n hx hb dX9_put_7 rfl (lv_at hl 1 rfl) ?_
  refine va_get (D := (dC, dI)) (ci := 9) (v := .int 1) (C := RX9) (T := TX9) (N := 2) hx hb hts in_c_put0_9 hown hK hP 0 rfl rfl 1 (by decide) (hts (.fieldLink RX9 15 "LanternHouse$Tape" "length" "I") (by decide +kernel)) (fun _ h9 => h9) (zset_eq (by rw [hlaT]; decide)) dX9_put_8 ?_
  refine lv_sipush (v := 3000) hx hb dX9_put_11 (by decide) ?_
  refine lv_icmp_ge (tgt := 46) hx hb dX9_put_14 (by decide) (fun zc => absurd zc (by decide)) (fun _ => ?_)
  refine lv_aload_n hx hb dX9_put_17 rfl (lv_at hl 1 rfl) ?_
  refine va_get (D := (dC, dI)) (ci := 9) (v := .ref qB) (C := RX9) (T := TX9) (N := 2) hx hb hts in_c_put0_9 hown hK hP 0 rfl rfl 0 (by decide) (hts (.fieldLink RX9 11 "LanternHouse$Tape" "bytes" "[B") (by decide +kernel)) (fun _ h9 => h9) (zset_ne (by decide) haT_0) dX9_put_18 ?_
  refine lv_aload_n hx hb dX9_put_21 rfl (lv_at hl 1 rfl) ?_
  refine va_get (D := (dC, dI)) (ci := 9) (v := .int 1) (C := RX9) (T := TX9) (N := 2) hx hb hts in_c_put0_9 hown hK hP 0 rfl rfl 1 (by decide) (hts (.fieldLink RX9 15 "LanternHouse$Tape" "length" "I") (by decide +kernel)) (fun _ h9 => h9) (zset_eq (by rw [hlaT]; decide)) dX9_put_22 ?_
  refine lv_iload_n hx hb dX9_put_25 rfl (lv_at hl 2 rfl) ?_
  refine lv_iload_n hx hb dX9_put_26 rfl (lv_at hl 0 rfl) ?_
  refine lv_ishr hx hb dX9_put_27 ?_
  refine lv_topi (fun x5 ex5 => ?_)
  refine lv_i2b hx hb dX9_put_28 rfl ?_
  refine lv_topi (fun x6 ex6 => ?_)
  refine z_bast hx hb hK hP hD hS 1 0 rfl rfl (show ¬ ((1 : Int32) < 0 ∨ 3000 ≤ (1 : Int32).toNatClampNeg) from by decide) dX9_put_29 (fun H locs g7 hg7 hP hD hS => ?_)
  have hP : va_P (dC, dI) vwCl [(aT, .inr (9, (List.set fsaT 1 (.int 1)))), (qB, .inl (cB, 3000, .inl g7))] H := hP
  have hD : va_D A [(aT, .inr (9, (List.set fsaT 1 (.int 1)))), (qB, .inl (cB, 3000, .inl g7))] := hD
  refine lv_aload_n hx hb dX9_put_30 rfl (lv_at hl 1 rfl) ?_
  refine lv_dup hx hb dX9_put_31 rfl ?_
  refine va_get (D := (dC, dI)) (ci := 9) (v := .int 1) (C := RX9) (T := TX9) (N := 2) hx hb hts in_c_put0_9 hown hK hP 0 rfl rfl 1 (by decide) (hts (.fieldLink RX9 15 "LanternHouse$Tape" "length" "I") (by decide +kernel)) (fun _ h9 => h9) (zset_eq (by rw [hlaT]; decide)) dX9_put_32 ?_
  refine lv_iconst (v := 1) hx hb dX9_put_35 (by decide) ?_
  refine lv_iadd hx hb dX9_put_36 ?_
  refine lv_topi (fun x8 ex8 => ?_)
  obtain rfl : x8 = 2 := ex8.trans (by decide)
  refine va_put (D := (dC, dI)) (ci := 9) (v := .int 2) (ty := .int) (C := RX9) (T := TX9) (N := 2) hx hb hts in_c_put0_9 tyX9 tyX9_ok nmX9 hown hK hP hD hS 0 rfl rfl 1 (by decide) (hts (.fieldLink RX9 15 "LanternHouse$Tape" "length" "I") (by decide +kernel)) (fun _ h9 => h9) rfl (by decide +kernel) rfl rfl (by rw [(zset_len hlaT)]; decide) dX9_put_37 (fun H locs hP hD hS => ?_)
  have hP : va_P (dC, dI) vwCl [(aT, .inr (9, (List.set (List.set fsaT 1 (.int 1)) 1 (.int 2)))), (qB, .inl (cB, 3000, .inl g7))] H := hP
  have hD : va_D A [(aT, .inr (9, (List.set (List.set fsaT 1 (.int 1)) 1 (.int 2)))), (qB, .inl (cB, 3000, .inl g7))] := hD
  refine lv_iinc (v := 8) (lv' := [(2, .int 8), (0, .ref aT), (1, .int iW)]) hx hb dX9_put_40 hl (k := 0) rfl (by decide) (by decide) rfl (fun ls hl => ?_)
  refine lv_goto (tgt := 3) hx hb dX9_put_43 (by decide) ?_
  refine lv_iload_n hx hb dX9_put_3 rfl (lv_at hl 0 rfl) ?_
  refine lv_if_lt (tgt := 46) hx hb dX9_put_4 (by decide) (fun zc => absurd zc (by decide)) (fun _ => ?_)
  refine lv_aload_n hx hb dX9_put_7 rfl (lv_at hl 1 rfl) ?_
  refine va_get (D := (dC, dI)) (ci := 9) (v := .int 2) (C := RX9) (T := TX9) (N := 2) hx hb hts in_c_put0_9 hown hK hP 0 rfl rfl 1 (by decide) (hts (.fieldLink RX9 15 "LanternHouse$Tape" "length" "I") (by decide +kernel)) (fun _ h9 => h9) (zset_eq (by rw [(zset_len hlaT)]; decide)) dX9_put_8 ?_
  refine lv_sipush (v := 3000) hx hb dX9_put_11 (by decide) ?_
  refine lv_icmp_ge (tgt := 46) hx hb dX9_put_14 (by decide) (fun zc => absurd zc (by decide)) (fun _ => ?_)
  refine lv_aload_n hx hb dX9_put_17 rfl (lv_at hl 1 rfl) ?_
  refine va_get (D := (dC, dI)) (ci := 9) (v := .ref qB) (C := RX9) (T := TX9) (N := 2) hx hb hts in_c_put0_9 hown hK hP 0 rfl rfl 0 (by decide) (hts (.fieldLink RX9 11 "LanternHouse$Tape" "bytes" "[B") (by decide +kernel)) (fun _ h9 => h9) (zset_ne (by decide) (zset_ne (by decide) haT_0)) dX9_put_18 ?_
  refine lv_aload_n hx hb dX9_put_21 rfl (lv_at hl 1 rfl) ?_
  refine va_get (D := (dC, dI)) (ci := 9) (v := .int 2) (C := RX9) (T := TX9) (N := 2) hx hb hts in_c_put0_9 hown hK hP 0 rfl rfl 1 (by decide) (hts (.fieldLink RX9 15 "LanternHouse$Tape" "length" "I") (by decide +kernel)) (fun _ h9 => h9) (zset_eq (by rw [(zset_len hlaT)]; decide)) dX9_put_22 ?_
  refine lv_iload_n hx hb dX9_put_25 rfl (lv_at hl 2 rfl) ?_
  refine lv_iload_n hx hb dX9_put_26 rfl (lv_at hl 0 rfl) ?_
  refine lv_ishr hx hb dX9_put_27 ?_
  refine lv_topi (fun x9 ex9 => ?_)
  refine lv_i2b hx hb dX9_put_28 rfl ?_
  refine lv_topi (fun x10 ex10 => ?_)
  refine z_bast hx hb hK hP hD hS 1 0 rfl rfl (show ¬ ((2 : Int32) < 0 ∨ 3000 ≤ (2 : Int32).toNatClampNeg) from by decide) dX9_put_29 (fun H locs g11 hg11 hP hD hS => ?_)
  have hP : va_P (dC, dI) vwCl [(aT, .inr (9, (List.set (List.set fsaT 1 (.int 1)) 1 (.int 2)))), (qB, .inl (cB, 3000, .inl g11))] H := hP
  have hD : va_D A [(aT, .inr (9, (List.set (List.set fsaT 1 (.int 1)) 1 (.int 2)))), (qB, .inl (cB, 3000, .inl g11))] := hD
  refine lv_aload_n hx hb dX9_put_30 rfl (lv_at hl 1 rfl) ?_
  refine lv_dup hx hb dX9_put_31 rfl ?_
  refine va_get (D := (dC, dI)) (ci := 9) (v := .int 2) (C := RX9) (T := TX9) (N := 2) hx hb hts in_c_put0_9 hown hK hP 0 rfl rfl 1 (by decide) (hts (.fieldLink RX9 15 "LanternHouse$Tape" "length" "I") (by decide +kernel)) (fun _ h9 => h9) (zset_eq (by rw [(zset_len hlaT)]; decide)) dX9_put_32 ?_
  refine lv_iconst (v := 1) hx hb dX9_put_35 (by decide) ?_
  refine lv_iadd hx hb dX9_put_36 ?_
  refine lv_topi (fun x12 ex12 => ?_)
  obtain rfl : x12 = 3 := ex12.trans (by decide)
  refine va_put (D := (dC, dI)) (ci := 9) (v := .int 3) (ty := .int) (C := RX9) (T := TX9) (N := 2) hx hb hts in_c_put0_9 tyX9 tyX9_ok nmX9 hown hK hP hD hS 0 rfl rfl 1 (by decide) (hts (.fieldLink RX9 15 "LanternHouse$Tape" "length" "I") (by decide +kernel)) (fun _ h9 => h9) rfl (by decide +kernel) rfl rfl (by rw [(zset_len (zset_len hlaT))]; decide) dX9_put_37 (fun H locs hP hD hS => ?_)
  have hP : va_P (dC, dI) vwCl [(aT, .inr (9, (List.set (List.set (List.set fsaT 1 (.int 1)) 1 (.int 2)) 1 (.int 3)))), (qB, .inl (cB, 3000, .inl g11))] H := hP
  have hD : va_D A [(aT, .inr (9, (List.set (List.set (List.set fsaT 1 (.int 1)) 1 (.int 2)) 1 (.int 3)))), (qB, .inl (cB, 3000, .inl g11))] := hD
  refine lv_iinc (v := 0) (lv' := [(2, .int 0), (0, .ref aT), (1, .int iW)]) hx hb dX9_put_40 hl (k := 0) rfl (by decide) (by decide) rfl (fun ls hl => ?_)
  refine lv_goto (tgt := 3) hx hb dX9_put_43 (by decide) ?_
  refine lv_iload_n hx hb dX9_put_3 rfl (lv_at hl 0 rfl) ?_
  refine lv_if_lt (tgt := 46) hx hb dX9_put_4 (by decide) (fun zc => absurd zc (by decide)) (fun _ => ?_)
  refine lv_aload_n hx hb dX9_put_7 rfl (lv_at hl 1 rfl) ?_
  refine va_get (D := (dC, dI)) (ci := 9) (v := .int 3) (C := RX9) (T := TX9) (N := 2) hx hb hts in_c_put0_9 hown hK hP 0 rfl rfl 1 (by decide) (hts (.fieldLink RX9 15 "LanternHouse$Tape" "length" "I") (by decide +kernel)) (fun _ h9 => h9) (zset_eq (by rw [(zset_len (zset_len hlaT))]; decide)) dX9_put_8 ?_
  refine lv_sipush (v := 3000) hx hb dX9_put_11 (by decide) ?_
  refine lv_icmp_ge (tgt := 46) hx hb dX9_put_14 (by decide) (fun zc => absurd zc (by decide)) (fun _ => ?_)
  refine lv_aload_n hx hb dX9_put_17 rfl (lv_at hl 1 rfl) ?_
  refine va_get (D := (dC, dI)) (ci := 9) (v := .ref qB) (C := RX9) (T := TX9) (N := 2) hx hb hts in_c_put0_9 hown hK hP 0 rfl rfl 0 (by decide) (hts (.fieldLink RX9 11 "LanternHouse$Tape" "bytes" "[B") (by decide +kernel)) (fun _ h9 => h9) (zset_ne (by decide) (zset_ne (by decide) (zset_ne (by decide) haT_0))) dX9_put_18 ?_
  refine lv_aload_n hx hb dX9_put_21 rfl (lv_at hl 1 rfl) ?_
  refine va_get (D := (dC, dI)) (ci := 9) (v := .int 3) (C := RX9) (T := TX9) (N := 2) hx hb hts in_c_put0_9 hown hK hP 0 rfl rfl 1 (by decide) (hts (.fieldLink RX9 15 "LanternHouse$Tape" "length" "I") (by decide +kernel)) (fun _ h9 => h9) (zset_eq (by rw [(zset_len (zset_len hlaT))]; decide)) dX9_put_22 ?_
  refine lv_iload_n hx hb dX9_put_25 rfl (lv_at hl 2 rfl) ?_
  refine lv_iload_n hx hb dX9_put_26 rfl (lv_at hl 0 rfl) ?_
  refine lv_ishr hx hb dX9_put_27 ?_
  refine lv_topi (fun x13 ex13 => ?_)
  refine lv_i2b hx hb dX9_put_28 rfl ?_
  refine lv_topi (fun x14 ex14 => ?_)
  refine z_bast hx hb hK hP hD hS 1 0 rfl rfl (show ¬ ((3 : Int32) < 0 ∨ 3000 ≤ (3 : Int32).toNatClampNeg) from by decide) dX9_put_29 (fun H locs g15 hg15 hP hD hS => ?_)
  have hP : va_P (dC, dI) vwCl [(aT, .inr (9, (List.set (List.set (List.set fsaT 1 (.int 1)) 1 (.int 2)) 1 (.int 3)))), (qB, .inl (cB, 3000, .inl g15))] H := hP
  have hD : va_D A [(aT, .inr (9, (List.set (List.set (List.set fsaT 1 (.int 1)) 1 (.int 2)) 1 (.int 3)))), (qB, .inl (cB, 3000, .inl g15))] := hD
  refine lv_aload_n hx hb dX9_put_30 rfl (lv_at hl 1 rfl) ?_
  refine lv_dup hx hb dX9_put_31 rfl ?_
  refine va_get (D := (dC, dI)) (ci := 9) (v := .int 3) (C := RX9) (T := TX9) (N := 2) hx hb hts in_c_put0_9 hown hK hP 0 rfl rfl 1 (by decide) (hts (.fieldLink RX9 15 "LanternHouse$Tape" "length" "I") (by decide +kernel)) (fun _ h9 => h9) (zset_eq (by rw [(zset_len (zset_len hlaT))]; decide)) dX9_put_32 ?_
  refine lv_iconst (v := 1) hx hb dX9_put_35 (by decide) ?_
  refine lv_iadd hx hb dX9_put_36 ?_
  refine lv_topi (fun x16 ex16 => ?_)
  obtain rfl : x16 = 4 := ex16.trans (by decide)
  refine va_put (D := (dC, dI)) (ci := 9) (v := .int 4) (ty := .int) (C := RX9) (T := TX9) (N := 2) hx hb hts in_c_put0_9 tyX9 tyX9_ok nmX9 hown hK hP hD hS 0 rfl rfl 1 (by decide) (hts (.fieldLink RX9 15 "LanternHouse$Tape" "length" "I") (by decide +kernel)) (fun _ h9 => h9) rfl (by decide +kernel) rfl rfl (by rw [(zset_len (zset_len (zset_len hlaT)))]; decide) dX9_put_37 (fun H locs hP hD hS => ?_)
  have hP : va_P (dC, dI) vwCl [(aT, .inr (9, (List.set (List.set (List.set (List.set fsaT 1 (.int 1)) 1 (.int 2)) 1 (.int 3)) 1 (.int 4)))), (qB, .inl (cB, 3000, .inl g15))] H := hP
  have hD : va_D A [(aT, .inr (9, (List.set (List.set (List.set (List.set fsaT 1 (.int 1)) 1 (.int 2)) 1 (.int 3)) 1 (.int 4)))), (qB, .inl (cB, 3000, .inl g15))] := hD
  refine lv_iinc (v := (-8)) (lv' := [(2, .int (-8)), (0, .ref aT), (1, .int iW)]) hx hb dX9_put_40 hl (k := 0) rfl (by decide) (by decide) rfl (fun ls hl => ?_)
  refine lv_goto (tgt := 3) hx hb dX9_put_43 (by decide) ?_
  refine lv_iload_n hx hb dX9_put_3 rfl (lv_at hl 0 rfl) ?_
  refine lv_if_lt (tgt := 46) hx hb dX9_put_4 (by decide) (fun _ => ?_) (fun zc => absurd zc (by decide))
  have hP9 : va_P (dC, dI) vwCl [(aT, .inr (9, (List.set (List.set (List.set (List.set fsaT 1 (.int 1)) 1 (.int 2)) 1 (.int 3)) 1 (.int 4)))), (qB, .inl (cB, 3000, .inl g15))] H := hP.sub [0, 1] rfl
  have hD9 : va_D A [(aT, .inr (9, (List.set (List.set (List.set (List.set fsaT 1 (.int 1)) 1 (.int 2)) 1 (.int 3)) 1 (.int 4)))), (qB, .inl (cB, 3000, .inl g15))] := hD.sub [0, 1] (by decide) rfl
  exact W.vret hx hb hr (fun t ht hW => ⟨⟨(), rfl, trivial, ⟨g15, (List.set (List.set (List.set (List.set fsaT 1 (.int 1)) 1 (.int 2)) 1 (.int 3)) 1 (.int 4)), (zset_len (zset_len (zset_len (zset_len hlaT)))), (fun j hj => ((zfr (by decide) hj).trans ((zfr (by decide) hj).trans ((zfr (by decide) hj).trans ((zfr (by decide) hj).trans rfl))))), (zset_eq (by rw [(zset_len (zset_len (zset_len hlaT)))]; decide)), by rw [ht]; exact hP9, hD9⟩⟩, hS.F ht⟩) hS.2.2 dX9_put_46

def zs_c_put4 : List Cond := .code yX9_put cX9_put 3 none :: (([.fieldLink RX9 15 "LanternHouse$Tape" "length" "I", .fieldLink RX9 11 "LanternHouse$Tape" "bytes" "[B"] : List Cond) ++ (wsX90 ++ []))
theorem gd_c_put4 : (zs_c_put4).all goodWord = true := by decide +kernel
theorem in_c_put4_9 : ∀ w ∈ wsX90, w ∈ zs_c_put4 := fun w h => List.mem_cons_of_mem _ (List.mem_append_right _ (List.mem_append_left _ h))
abbrev ws_c_put4 (cB cI cJ cZ cQ : ClassId) (aT qB : Nat) (iW : Int32) (fB : Nat → Int32) (fsaT : List Value) : va_W := [(aT, .inr (9, fsaT)), (qB, .inl (cB, 3000, .inl fB))]
set_option maxHeartbeats 4000000 in
set_option maxRecDepth 100000 in
theorem c_put4 (l : Launch) (dC : Nat → ClassId) (dI : Nat → Nat → Nat) (cB cI cJ cZ cQ : ClassId) (aT qB : Nat) (iW : Int32) (fB : Nat → Int32) (fsaT : List Value) (sz : Nat) (hlaT : fsaT.length = 2) (haT_0 : fsaT[0]? = some (.ref qB)) (haT_1 : fsaT[1]? = some (.int 4)) : Met l yX9_put zs_c_put4 ({ frames := 0, cells := 0, slots := 0, locals := 0 } : Room) (zPc [.ref aT, .int iW] (dC, dI) (zTY cB cI cJ cZ cQ) (ws_c_put4 cB cI cJ cZ cQ aT qB iW fB fsaT) sz) (va_Qv (fun (_ : Unit) => True) (fun (_ : Unit) (t : State) => ∃ (fB2 : Nat → Int32), ∃ (gsaT : List Value), gsaT.length = 2 ∧ (∀ j : Nat, ¬ j ∈ ([1] : List Nat) → gsaT[j]? = fsaT[j]?) ∧ gsaT[1]? = some (.int 8) ∧ va_P (dC, dI) vwCl [(aT, .inr (9, gsaT)), (qB, .inl (cB, 3000, .inl fB2))] t.heap ∧ va_D (va_A (ws_c_put4 cB cI cJ cZ cQ aT qB iW fB fsaT) sz) [(aT, .inr (9, gsaT)), (qB, .inl (cB, 3000, .inl fB2))]) (va_A (ws_c_put4 cB cI cJ cZ cQ aT qB iW fB fsaT) sz)) 0 0 (va_A (ws_c_put4 cB cI cJ cZ cQ aT qB iW fB fsaT) sz) := by
  refine Met.ofW (cc := cX9_put) (maxL := 3) (ret := none) (by decide) rfl ?_
  intro p e s m args below meth c s₁ B hml hv
  obtain ⟨rfl, hsz, hP0, hK, hO, hD0⟩ := hv
  have hx := B.exec
  have hb := B.bytes
  have hr := B.returns
  have hts := atoms_spec (ws := zs_c_put4) B.pre
  have hown : s.vm.findClass RX9 = some m.cls := findClass_of_methodNamed B.named
  have hlocks := B.notSynchronized
  subst hsz
  have hD8 := hD0.self (sz := s.heap.size)
  generalize hAe : va_A (ws_c_put4 cB cI cJ cZ cQ aT qB iW fB fsaT) s.heap.size = A at hD8 ⊢
  have hA : ∀ q : Nat, s.heap.size ≤ q → A q := fun q h => by rw [← hAe]; exact Or.inr h
  have hS : va_S A s.heap s.heap [] := va_S.rf
  have hP : va_P (dC, dI) vwCl [(aT, .inr (9, fsaT)), (qB, .inl (cB, 3000, .inl fB))] s.heap := hP0
  have hD : va_D A [(aT, .inr (9, fsaT)), (qB, .inl (cB, 3000, .inl fB))] := hD8
  have hl := lv_entry ([.ref aT, .int iW]) (n := 3) (Nat.le_of_ble_eq_true rfl)
  rw [lg_entry_eq]
  generalize (lg_sl ([.ref aT, .int iW]) ++ List.replicate (3 - (lg_sl ([.ref aT, .int iW])).length) Slot.unset).toArray = ls at hl ⊢
  have hl : lv_has ls 3 [(0, .ref aT), (1, .int iW)] := hl
  clear hP0 hD8 hD0
  refine zH0 (fun H hP hS => ?_) hP hS
  refine lv_bipush (v := 24) hx hb dX9_put_0 (by decide) ?_
  refine lv_istore_n (lv' := [(2, .int 24), (0, .ref aT), (1, .int iW)]) hx hb dX9_put_2 rfl hl (by decide) rfl (fun ls hl => ?_)
  refine lv_iload_n hx hb dX9_put_3 rfl (lv_at hl 0 rfl) ?_
  refine lv_if_lt (tgt := 46) hx hb dX9_put_4 (by decide) (fun zc => absurd zc (by decide)) (fun _ => ?_)
  refine lv_aload_n hx hb dX9_put_7 rfl (lv_at hl 1 rfl) ?_
  refine va_get (D := (dC, dI)) (ci := 9) (v := .int 4) (C := RX9) (T := TX9) (N := 2) hx hb hts in_c_put4_9 hown hK hP 0 rfl rfl 1 (by decide) (hts (.fieldLink RX9 15 "LanternHouse$Tape" "length" "I") (by decide +kernel)) (fun _ h9 => h9) haT_1 dX9_put_8 ?_
  refine lv_sipush (v := 3000) hx hb dX9_put_11 (by decide) ?_
  refine lv_icmp_ge (tgt := 46) hx hb dX9_put_14 (by decide) (fun zc => absurd zc (by decide)) (fun _ => ?_)
  refine lv_aload_n hx hb dX9_put_17 rfl (lv_at hl 1 rfl) ?_
  refine va_get (D := (dC, dI)) (ci := 9) (v := .ref qB) (C := RX9) (T := TX9) (N := 2) hx hb hts in_c_put4_9 hown hK hP 0 rfl rfl 0 (by decide) (hts (.fieldLink RX9 11 "LanternHouse$Tape" "bytes" "[B") (by decide +kernel)) (fun _ h9 => h9) haT_0 dX9_put_18 ?_
  refine lv_aload_n hx hb dX9_put_21 rfl (lv_at hl 1 rfl) ?_
  refine va_get (D := (dC, dI)) (ci := 9) (v := .int 4) (C := RX9) (T := TX9) (N := 2) hx hb hts in_c_put4_9 hown hK hP 0 rfl rfl 1 (by decide) (hts (.fieldLink RX9 15 "LanternHouse$Tape" "length" "I") (by decide +kernel)) (fun _ h9 => h9) haT_1 dX9_put_22 ?_
  refine lv_iload_n hx hb dX9_put_25 rfl (lv_at hl 2 rfl) ?_
  refine lv_iload_n hx hb dX9_put_26 rfl (lv_at hl 0 rfl) ?_
  refine lv_ishr hx hb dX9_put_27 ?_
  refine lv_topi (fun x1 ex1 => ?_)
  refine lv_i2b hx hb dX9_put_28 rfl ?_
  refine lv_topi (fun x2 ex2 => ?_)
  refine z_bast hx hb hK hP hD hS 1 0 rfl rfl (show ¬ ((4 : Int32) < 0 ∨ 3000 ≤ (4 : Int32).toNatClampNeg) from by decide) dX9_put_29 (fun H locs g3 hg3 hP hD hS => ?_)
  have hP : va_P (dC, dI) vwCl [(aT, .inr (9, fsaT)), (qB, .inl (cB, 3000, .inl g3))] H := hP
  have hD : va_D A [(aT, .inr (9, fsaT)), (qB, .inl (cB, 3000, .inl g3))] := hD
  refine lv_aload_n hx hb dX9_put_30 rfl (lv_at hl 1 rfl) ?_
  refine lv_dup hx hb dX9_put_31 rfl ?_
  refine va_get (D := (dC, dI)) (ci := 9) (v := .int 4) (C := RX9) (T := TX9) (N := 2) hx hb hts in_c_put4_9 hown hK hP 0 rfl rfl 1 (by decide) (hts (.fieldLink RX9 15 "LanternHouse$Tape" "length" "I") (by decide +kernel)) (fun _ h9 => h9) haT_1 dX9_put_32 ?_
  refine lv_iconst (v := 1) hx hb dX9_put_35 (by decide) ?_
  refine lv_iadd hx hb dX9_put_36 ?_
  refine lv_topi (fun x4 ex4 => ?_)
  obtain rfl : x4 = 5 := ex4.trans (by decide)
  refine va_put (D := (dC, dI)) (ci := 9) (v := .int 5) (ty := .int) (C := RX9) (T := TX9) (N := 2) hx hb hts in_c_put4_9 tyX9 tyX9_ok nmX9 hown hK hP hD hS 0 rfl rfl 1 (by decide) (hts (.fieldLink RX9 15 "LanternHouse$Tape" "length" "I") (by decide +kernel)) (fun _ h9 => h9) rfl (by decide +kernel) rfl rfl (by rw [hlaT]; decide) dX9_put_37 (fun H locs hP hD hS => ?_)
  have hP : va_P (dC, dI) vwCl [(aT, .inr (9, (List.set fsaT 1 (.int 5)))), (qB, .inl (cB, 3000, .inl g3))] H := hP
  have hD : va_D A [(aT, .inr (9, (List.set fsaT 1 (.int 5)))), (qB, .inl (cB, 3000, .inl g3))] := hD
  refine lv_iinc (v := 16) (lv' := [(2, .int 16), (0, .ref aT), (1, .int iW)]) hx hb dX9_put_40 hl (k := 0) rfl (by decide) (by decide) rfl (fun ls hl => ?_)
  refine lv_goto (tgt := 3) hx hb dX9_put_43 (by decide) ?_
  refine lv_iload_n hx hb dX9_put_3 rfl (lv_at hl 0 rfl) ?_
  refine lv_if_lt (tgt := 46) hx hb dX9_put_4 (by decide) (fun zc => absurd zc (by decide)) (fun _ => ?_)
  refine lv_aload_n hx hb dX9_put_7 rfl (lv_at hl 1 rfl) ?_
  refine va_get (D := (dC, dI)) (ci := 9) (v := .int 5) (C := RX9) (T := TX9) (N := 2) hx hb hts in_c_put4_9 hown hK hP 0 rfl rfl 1 (by decide) (hts (.fieldLink RX9 15 "LanternHouse$Tape" "length" "I") (by decide +kernel)) (fun _ h9 => h9) (zset_eq (by rw [hlaT]; decide)) dX9_put_8 ?_
  refine lv_sipush (v := 3000) hx hb dX9_put_11 (by decide) ?_
  refine lv_icmp_ge (tgt := 46) hx hb dX9_put_14 (by decide) (fun zc => absurd zc (by decide)) (fun _ => ?_)
  refine lv_aload_n hx hb dX9_put_17 rfl (lv_at hl 1 rfl) ?_
  refine va_get (D := (dC, dI)) (ci := 9) (v := .ref qB) (C := RX9) (T := TX9) (N := 2) hx hb hts in_c_put4_9 hown hK hP 0 rfl rfl 0 (by decide) (hts (.fieldLink RX9 11 "LanternHouse$Tape" "bytes" "[B") (by decide +kernel)) (fun _ h9 => h9) (zset_ne (by decide) haT_0) dX9_put_18 ?_
  refine lv_aload_n hx hb dX9_put_21 rfl (lv_at hl 1 rfl) ?_
  refine va_get (D := (dC, dI)) (ci := 9) (v := .int 5) (C := RX9) (T := TX9) (N := 2) hx hb hts in_c_put4_9 hown hK hP 0 rfl rfl 1 (by decide) (hts (.fieldLink RX9 15 "LanternHouse$Tape" "length" "I") (by decide +kernel)) (fun _ h9 => h9) (zset_eq (by rw [hlaT]; decide)) dX9_put_22 ?_
  refine lv_iload_n hx hb dX9_put_25 rfl (lv_at hl 2 rfl) ?_
  refine lv_iload_n hx hb dX9_put_26 rfl (lv_at hl 0 rfl) ?_
  refine lv_ishr hx hb dX9_put_27 ?_
  refine lv_topi (fun x5 ex5 => ?_)
  refine lv_i2b hx hb dX9_put_28 rfl ?_
  refine lv_topi (fun x6 ex6 => ?_)
  refine z_bast hx hb hK hP hD hS 1 0 rfl rfl (show ¬ ((5 : Int32) < 0 ∨ 3000 ≤ (5 : Int32).toNatClampNeg) from by decide) dX9_put_29 (fun H locs g7 hg7 hP hD hS => ?_)
  have hP : va_P (dC, dI) vwCl [(aT, .inr (9, (List.set fsaT 1 (.int 5)))), (qB, .inl (cB, 3000, .inl g7))] H := hP
  have hD : va_D A [(aT, .inr (9, (List.set fsaT 1 (.int 5)))), (qB, .inl (cB, 3000, .inl g7))] := hD
  refine lv_aload_n hx hb dX9_put_30 rfl (lv_at hl 1 rfl) ?_
  refine lv_dup hx hb dX9_put_31 rfl ?_
  refine va_get (D := (dC, dI)) (ci := 9) (v := .int 5) (C := RX9) (T := TX9) (N := 2) hx hb hts in_c_put4_9 hown hK hP 0 rfl rfl 1 (by decide) (hts (.fieldLink RX9 15 "LanternHouse$Tape" "length" "I") (by decide +kernel)) (fun _ h9 => h9) (zset_eq (by rw [hlaT]; decide)) dX9_put_32 ?_
  refine lv_iconst (v := 1) hx hb dX9_put_35 (by decide) ?_
  refine lv_iadd hx hb dX9_put_36 ?_
  refine lv_topi (fun x8 ex8 => ?_)
  obtain rfl : x8 = 6 := ex8.trans (by decide)
  refine va_put (D := (dC, dI)) (ci := 9) (v := .int 6) (ty := .int) (C := RX9) (T := TX9) (N := 2) hx hb hts in_c_put4_9 tyX9 tyX9_ok nmX9 hown hK hP hD hS 0 rfl rfl 1 (by decide) (hts (.fieldLink RX9 15 "LanternHouse$Tape" "length" "I") (by decide +kernel)) (fun _ h9 => h9) rfl (by decide +kernel) rfl rfl (by rw [(zset_len hlaT)]; decide) dX9_put_37 (fun H locs hP hD hS => ?_)
  have hP : va_P (dC, dI) vwCl [(aT, .inr (9, (List.set (List.set fsaT 1 (.int 5)) 1 (.int 6)))), (qB, .inl (cB, 3000, .inl g7))] H := hP
  have hD : va_D A [(aT, .inr (9, (List.set (List.set fsaT 1 (.int 5)) 1 (.int 6)))), (qB, .inl (cB, 3000, .inl g7))] := hD
  refine lv_iinc (v := 8) (lv' := [(2, .int 8), (0, .ref aT), (1, .int iW)]) hx hb dX9_put_40 hl (k := 0) rfl (by decide) (by decide) rfl (fun ls hl => ?_)
  refine lv_goto (tgt := 3) hx hb dX9_put_43 (by decide) ?_
  refine lv_iload_n hx hb dX9_put_3 rfl (lv_at hl 0 rfl) ?_
  refine lv_if_lt (tgt := 46) hx hb dX9_put_4 (by decide) (fun zc => absurd zc (by decide)) (fun _ => ?_)
  refine lv_aload_n hx hb dX9_put_7 rfl (lv_at hl 1 rfl) ?_
  refine va_get (D := (dC, dI)) (ci := 9) (v := .int 6) (C := RX9) (T := TX9) (N := 2) hx hb hts in_c_put4_9 hown hK hP 0 rfl rfl 1 (by decide) (hts (.fieldLink RX9 15 "LanternHouse$Tape" "length" "I") (by decide +kernel)) (fun _ h9 => h9) (zset_eq (by rw [(zset_len hlaT)]; decide)) dX9_put_8 ?_
  refine lv_sipush (v := 3000) hx hb dX9_put_11 (by decide) ?_
  refine lv_icmp_ge (tgt := 46) hx hb dX9_put_14 (by decide) (fun zc => absurd zc (by decide)) (fun _ => ?_)
  refine lv_aload_n hx hb dX9_put_17 rfl (lv_at hl 1 rfl) ?_
  refine va_get (D := (dC, dI)) (ci := 9) (v := .ref qB) (C := RX9) (T := TX9) (N := 2) hx hb hts in_c_put4_9 hown hK hP 0 rfl rfl 0 (by decide) (hts (.fieldLink RX9 11 "LanternHouse$Tape" "bytes" "[B") (by decide +kernel)) (fun _ h9 => h9) (zset_ne (by decide) (zset_ne (by decide) haT_0)) dX9_put_18 ?_
  refine lv_aload_n hx hb dX9_put_21 rfl (lv_at hl 1 rfl) ?_
  refine va_get (D := (dC, dI)) (ci := 9) (v := .int 6) (C := RX9) (T := TX9) (N := 2) hx hb hts in_c_put4_9 hown hK hP 0 rfl rfl 1 (by decide) (hts (.fieldLink RX9 15 "LanternHouse$Tape" "length" "I") (by decide +kernel)) (fun _ h9 => h9) (zset_eq (by rw [(zset_len hlaT)]; decide)) dX9_put_22 ?_
  refine lv_iload_n hx hb dX9_put_25 rfl (lv_at hl 2 rfl) ?_
  refine lv_iload_n hx hb dX9_put_26 rfl (lv_at hl 0 rfl) ?_
  refine lv_ishr hx hb dX9_put_27 ?_
  refine lv_topi (fun x9 ex9 => ?_)
  refine lv_i2b hx hb dX9_put_28 rfl ?_
  refine lv_topi (fun x10 ex10 => ?_)
  refine z_bast hx hb hK hP hD hS 1 0 rfl rfl (show ¬ ((6 : Int32) < 0 ∨ 3000 ≤ (6 : Int32).toNatClampNeg) from by decide) dX9_put_29 (fun H locs g11 hg11 hP hD hS => ?_)
  have hP : va_P (dC, dI) vwCl [(aT, .inr (9, (List.set (List.set fsaT 1 (.int 5)) 1 (.int 6)))), (qB, .inl (cB, 3000, .inl g11))] H := hP
  have hD : va_D A [(aT, .inr (9, (List.set (List.set fsaT 1 (.int 5)) 1 (.int 6)))), (qB, .inl (cB, 3000, .inl g11))] := hD
  refine lv_aload_n hx hb dX9_put_30 rfl (lv_at hl 1 rfl) ?_
  refine lv_dup hx hb dX9_put_31 rfl ?_
  refine va_get (D := (dC, dI)) (ci := 9) (v := .int 6) (C := RX9) (T := TX9) (N := 2) hx hb hts in_c_put4_9 hown hK hP 0 rfl rfl 1 (by decide) (hts (.fieldLink RX9 15 "LanternHouse$Tape" "length" "I") (by decide +kernel)) (fun _ h9 => h9) (zset_eq (by rw [(zset_len hlaT)]; decide)) dX9_put_32 ?_
  refine lv_iconst (v := 1) hx hb dX9_put_35 (by decide) ?_
  refine lv_iadd hx hb dX9_put_36 ?_
  refine lv_topi (fun x12 ex12 => ?_)
  obtain rfl : x12 = 7 := ex12.trans (by decide)
  refine va_put (D := (dC, dI)) (ci := 9) (v := .int 7) (ty := .int) (C := RX9) (T := TX9) (N := 2) hx hb hts in_c_put4_9 tyX9 tyX9_ok nmX9 hown hK hP hD hS 0 rfl rfl 1 (by decide) (hts (.fieldLink RX9 15 "LanternHouse$Tape" "length" "I") (by decide +kernel)) (fun _ h9 => h9) rfl (by decide +kernel) rfl rfl (by rw [(zset_len (zset_len hlaT))]; decide) dX9_put_37 (fun H locs hP hD hS => ?_)
  have hP : va_P (dC, dI) vwCl [(aT, .inr (9, (List.set (List.set (List.set fsaT 1 (.int 5)) 1 (.int 6)) 1 (.int 7)))), (qB, .inl (cB, 3000, .inl g11))] H := hP
  have hD : va_D A [(aT, .inr (9, (List.set (List.set (List.set fsaT 1 (.int 5)) 1 (.int 6)) 1 (.int 7)))), (qB, .inl (cB, 3000, .inl g11))] := hD
  refine lv_iinc (v := 0) (lv' := [(2, .int 0), (0, .ref aT), (1, .int iW)]) hx hb dX9_put_40 hl (k := 0) rfl (by decide) (by decide) rfl (fun ls hl => ?_)
  refine lv_goto (tgt := 3) hx hb dX9_put_43 (by decide) ?_
  refine lv_iload_n hx hb dX9_put_3 rfl (lv_at hl 0 rfl) ?_
  refine lv_if_lt (tgt := 46) hx hb dX9_put_4 (by decide) (fun zc => absurd zc (by decide)) (fun _ => ?_)
  refine lv_aload_n hx hb dX9_put_7 rfl (lv_at hl 1 rfl) ?_
  refine va_get (D := (dC, dI)) (ci := 9) (v := .int 7) (C := RX9) (T := TX9) (N := 2) hx hb hts in_c_put4_9 hown hK hP 0 rfl rfl 1 (by decide) (hts (.fieldLink RX9 15 "LanternHouse$Tape" "length" "I") (by decide +kernel)) (fun _ h9 => h9) (zset_eq (by rw [(zset_len (zset_len hlaT))]; decide)) dX9_put_8 ?_
  refine lv_sipush (v := 3000) hx hb dX9_put_11 (by decide) ?_
  refine lv_icmp_ge (tgt := 46) hx hb dX9_put_14 (by decide) (fun zc => absurd zc (by decide)) (fun _ => ?_)
  refine lv_aload_n hx hb dX9_put_17 rfl (lv_at hl 1 rfl) ?_
  refine va_get (D := (dC, dI)) (ci := 9) (v := .ref qB) (C := RX9) (T := TX9) (N := 2) hx hb hts in_c_put4_9 hown hK hP 0 rfl rfl 0 (by decide) (hts (.fieldLink RX9 11 "LanternHouse$Tape" "bytes" "[B") (by decide +kernel)) (fun _ h9 => h9) (zset_ne (by decide) (zset_ne (by decide) (zset_ne (by decide) haT_0))) dX9_put_18 ?_
  refine lv_aload_n hx hb dX9_put_21 rfl (lv_at hl 1 rfl) ?_
  refine va_get (D := (dC, dI)) (ci := 9) (v := .int 7) (C := RX9) (T := TX9) (N := 2) hx hb hts in_c_put4_9 hown hK hP 0 rfl rfl 1 (by decide) (hts (.fieldLink RX9 15 "LanternHouse$Tape" "length" "I") (by decide +kernel)) (fun _ h9 => h9) (zset_eq (by rw [(zset_len (zset_len hlaT))]; decide)) dX9_put_22 ?_
  refine lv_iload_n hx hb dX9_put_25 rfl (lv_at hl 2 rfl) ?_
  refine lv_iload_n hx hb dX9_put_26 rfl (lv_at hl 0 rfl) ?_
  refine lv_ishr hx hb dX9_put_27 ?_
  refine lv_topi (fun x13 ex13 => ?_)
  refine lv_i2b hx hb dX9_put_28 rfl ?_
  refine lv_topi (fun x14 ex14 => ?_)
  refine z_bast hx hb hK hP hD hS 1 0 rfl rfl (show ¬ ((7 : Int32) < 0 ∨ 3000 ≤ (7 : Int32).toNatClampNeg) from by decide) dX9_put_29 (fun H locs g15 hg15 hP hD hS => ?_)
  have hP : va_P (dC, dI) vwCl [(aT, .inr (9, (List.set (List.set (List.set fsaT 1 (.int 5)) 1 (.int 6)) 1 (.int 7)))), (qB, .inl (cB, 3000, .inl g15))] H := hP
  have hD : va_D A [(aT, .inr (9, (List.set (List.set (List.set fsaT 1 (.int 5)) 1 (.int 6)) 1 (.int 7)))), (qB, .inl (cB, 3000, .inl g15))] := hD
  refine lv_aload_n hx hb dX9_put_30 rfl (lv_at hl 1 rfl) ?_
  refine lv_dup hx hb dX9_put_31 rfl ?_
  refine va_get (D := (dC, dI)) (ci := 9) (v := .int 7) (C := RX9) (T := TX9) (N := 2) hx hb hts in_c_put4_9 hown hK hP 0 rfl rfl 1 (by decide) (hts (.fieldLink RX9 15 "LanternHouse$Tape" "length" "I") (by decide +kernel)) (fun _ h9 => h9) (zset_eq (by rw [(zset_len (zset_len hlaT))]; decide)) dX9_put_32 ?_
  refine lv_iconst (v := 1) hx hb dX9_put_35 (by decide) ?_
  refine lv_iadd hx hb dX9_put_36 ?_
  refine lv_topi (fun x16 ex16 => ?_)
  obtain rfl : x16 = 8 := ex16.trans (by decide)
  refine va_put (D := (dC, dI)) (ci := 9) (v := .int 8) (ty := .int) (C := RX9) (T := TX9) (N := 2) hx hb hts in_c_put4_9 tyX9 tyX9_ok nmX9 hown hK hP hD hS 0 rfl rfl 1 (by decide) (hts (.fieldLink RX9 15 "LanternHouse$Tape" "length" "I") (by decide +kernel)) (fun _ h9 => h9) rfl (by decide +kernel) rfl rfl (by rw [(zset_len (zset_len (zset_len hlaT)))]; decide) dX9_put_37 (fun H locs hP hD hS => ?_)
  have hP : va_P (dC, dI) vwCl [(aT, .inr (9, (List.set (List.set (List.set (List.set fsaT 1 (.int 5)) 1 (.int 6)) 1 (.int 7)) 1 (.int 8)))), (qB, .inl (cB, 3000, .inl g15))] H := hP
  have hD : va_D A [(aT, .inr (9, (List.set (List.set (List.set (List.set fsaT 1 (.int 5)) 1 (.int 6)) 1 (.int 7)) 1 (.int 8)))), (qB, .inl (cB, 3000, .inl g15))] := hD
  refine lv_iinc (v := (-8)) (lv' := [(2, .int (-8)), (0, .ref aT), (1, .int iW)]) hx hb dX9_put_40 hl (k := 0) rfl (by decide) (by decide) rfl (fun ls hl => ?_)
  refine lv_goto (tgt := 3) hx hb dX9_put_43 (by decide) ?_
  refine lv_iload_n hx hb dX9_put_3 rfl (lv_at hl 0 rfl) ?_
  refine lv_if_lt (tgt := 46) hx hb dX9_put_4 (by decide) (fun _ => ?_) (fun zc => absurd zc (by decide))
  have hP9 : va_P (dC, dI) vwCl [(aT, .inr (9, (List.set (List.set (List.set (List.set fsaT 1 (.int 5)) 1 (.int 6)) 1 (.int 7)) 1 (.int 8)))), (qB, .inl (cB, 3000, .inl g15))] H := hP.sub [0, 1] rfl
  have hD9 : va_D A [(aT, .inr (9, (List.set (List.set (List.set (List.set fsaT 1 (.int 5)) 1 (.int 6)) 1 (.int 7)) 1 (.int 8)))), (qB, .inl (cB, 3000, .inl g15))] := hD.sub [0, 1] (by decide) rfl
  exact W.vret hx hb hr (fun t ht hW => ⟨⟨(), rfl, trivial, ⟨g15, (List.set (List.set (List.set (List.set fsaT 1 (.int 5)) 1 (.int 6)) 1 (.int 7)) 1 (.int 8)), (zset_len (zset_len (zset_len (zset_len hlaT)))), (fun j hj => ((zfr (by decide) hj).trans ((zfr (by decide) hj).trans ((zfr (by decide) hj).trans ((zfr (by decide) hj).trans rfl))))), (zset_eq (by rw [(zset_len (zset_len (zset_len hlaT)))]; decide)), by rw [ht]; exact hP9, hD9⟩⟩, hS.F ht⟩) hS.2.2 dX9_put_46

def zs_c_put8 : List Cond := .code yX9_put cX9_put 3 none :: (([.fieldLink RX9 15 "LanternHouse$Tape" "length" "I", .fieldLink RX9 11 "LanternHouse$Tape" "bytes" "[B"] : List Cond) ++ (wsX90 ++ []))
theorem gd_c_put8 : (zs_c_put8).all goodWord = true := by decide +kernel
theorem in_c_put8_9 : ∀ w ∈ wsX90, w ∈ zs_c_put8 := fun w h => List.mem_cons_of_mem _ (List.mem_append_right _ (List.mem_append_left _ h))
abbrev ws_c_put8 (cB cI cJ cZ cQ : ClassId) (aT qB : Nat) (iW : Int32) (fB : Nat → Int32) (fsaT : List Value) : va_W := [(aT, .inr (9, fsaT)), (qB, .inl (cB, 3000, .inl fB))]
set_option maxHeartbeats 4000000 in
set_option maxRecDepth 100000 in
theorem c_put8 (l : Launch) (dC : Nat → ClassId) (dI : Nat → Nat → Nat) (cB cI cJ cZ cQ : ClassId) (aT qB : Nat) (iW : Int32) (fB : Nat → Int32) (fsaT : List Value) (sz : Nat) (hlaT : fsaT.length = 2) (haT_0 : fsaT[0]? = some (.ref qB)) (haT_1 : fsaT[1]? = some (.int 8)) : Met l yX9_put zs_c_put8 ({ frames := 0, cells := 0, slots := 0, locals := 0 } : Room) (zPc [.ref aT, .int iW] (dC, dI) (zTY cB cI cJ cZ cQ) (ws_c_put8 cB cI cJ cZ cQ aT qB iW fB fsaT) sz) (va_Qv (fun (_ : Unit) => True) (fun (_ : Unit) (t : State) => ∃ (fB2 : Nat → Int32), ∃ (gsaT : List Value), gsaT.length = 2 ∧ (∀ j : Nat, ¬ j ∈ ([1] : List Nat) → gsaT[j]? = fsaT[j]?) ∧ gsaT[1]? = some (.int 12) ∧ va_P (dC, dI) vwCl [(aT, .inr (9, gsaT)), (qB, .inl (cB, 3000, .inl fB2))] t.heap ∧ va_D (va_A (ws_c_put8 cB cI cJ cZ cQ aT qB iW fB fsaT) sz) [(aT, .inr (9, gsaT)), (qB, .inl (cB, 3000, .inl fB2))]) (va_A (ws_c_put8 cB cI cJ cZ cQ aT qB iW fB fsaT) sz)) 0 0 (va_A (ws_c_put8 cB cI cJ cZ cQ aT qB iW fB fsaT) sz) := by
  refine Met.ofW (cc := cX9_put) (maxL := 3) (ret := none) (by decide) rfl ?_
  intro p e s m args below meth c s₁ B hml hv
  obtain ⟨rfl, hsz, hP0, hK, hO, hD0⟩ := hv
  have hx := B.exec
  have hb := B.bytes
  have hr := B.returns
  have hts := atoms_spec (ws := zs_c_put8) B.pre
  have hown : s.vm.findClass RX9 = some m.cls := findClass_of_methodNamed B.named
  have hlocks := B.notSynchronized
  subst hsz
  have hD8 := hD0.self (sz := s.heap.size)
  generalize hAe : va_A (ws_c_put8 cB cI cJ cZ cQ aT qB iW fB fsaT) s.heap.size = A at hD8 ⊢
  have hA : ∀ q : Nat, s.heap.size ≤ q → A q := fun q h => by rw [← hAe]; exact Or.inr h
  have hS : va_S A s.heap s.heap [] := va_S.rf
  have hP : va_P (dC, dI) vwCl [(aT, .inr (9, fsaT)), (qB, .inl (cB, 3000, .inl fB))] s.heap := hP0
  have hD : va_D A [(aT, .inr (9, fsaT)), (qB, .inl (cB, 3000, .inl fB))] := hD8
  have hl := lv_entry ([.ref aT, .int iW]) (n := 3) (Nat.le_of_ble_eq_true rfl)
  rw [lg_entry_eq]
  generalize (lg_sl ([.ref aT, .int iW]) ++ List.replicate (3 - (lg_sl ([.ref aT, .int iW])).length) Slot.unset).toArray = ls at hl ⊢
  have hl : lv_has ls 3 [(0, .ref aT), (1, .int iW)] := hl
  clear hP0 hD8 hD0
  refine zH0 (fun H hP hS => ?_) hP hS
  refine lv_bipush (v := 24) hx hb dX9_put_0 (by decide) ?_
  refine lv_istore_n (lv' := [(2, .int 24), (0, .ref aT), (1, .int iW)]) hx hb dX9_put_2 rfl hl (by decide) rfl (fun ls hl => ?_)
  refine lv_iload_n hx hb dX9_put_3 rfl (lv_at hl 0 rfl) ?_
  refine lv_if_lt (tgt := 46) hx hb dX9_put_4 (by decide) (fun zc => absurd zc (by decide)) (fun _ => ?_)
  refine lv_aload_n hx hb dX9_put_7 rfl (lv_at hl 1 rfl) ?_
  refine va_get (D := (dC, dI)) (ci := 9) (v := .int 8) (C := RX9) (T := TX9) (N := 2) hx hb hts in_c_put8_9 hown hK hP 0 rfl rfl 1 (by decide) (hts (.fieldLink RX9 15 "LanternHouse$Tape" "length" "I") (by decide +kernel)) (fun _ h9 => h9) haT_1 dX9_put_8 ?_
  refine lv_sipush (v := 3000) hx hb dX9_put_11 (by decide) ?_
  refine lv_icmp_ge (tgt := 46) hx hb dX9_put_14 (by decide) (fun zc => absurd zc (by decide)) (fun _ => ?_)
  refine lv_aload_n hx hb dX9_put_17 rfl (lv_at hl 1 rfl) ?_
  refine va_get (D := (dC, dI)) (ci := 9) (v := .ref qB) (C := RX9) (T := TX9) (N := 2) hx hb hts in_c_put8_9 hown hK hP 0 rfl rfl 0 (by decide) (hts (.fieldLink RX9 11 "LanternHouse$Tape" "bytes" "[B") (by decide +kernel)) (fun _ h9 => h9) haT_0 dX9_put_18 ?_
  refine lv_aload_n hx hb dX9_put_21 rfl (lv_at hl 1 rfl) ?_
  refine va_get (D := (dC, dI)) (ci := 9) (v := .int 8) (C := RX9) (T := TX9) (N := 2) hx hb hts in_c_put8_9 hown hK hP 0 rfl rfl 1 (by decide) (hts (.fieldLink RX9 15 "LanternHouse$Tape" "length" "I") (by decide +kernel)) (fun _ h9 => h9) haT_1 dX9_put_22 ?_
  refine lv_iload_n hx hb dX9_put_25 rfl (lv_at hl 2 rfl) ?_
  refine lv_iload_n hx hb dX9_put_26 rfl (lv_at hl 0 rfl) ?_
  refine lv_ishr hx hb dX9_put_27 ?_
  refine lv_topi (fun x1 ex1 => ?_)
  refine lv_i2b hx hb dX9_put_28 rfl ?_
  refine lv_topi (fun x2 ex2 => ?_)
  refine z_bast hx hb hK hP hD hS 1 0 rfl rfl (show ¬ ((8 : Int32) < 0 ∨ 3000 ≤ (8 : Int32).toNatClampNeg) from by decide) dX9_put_29 (fun H locs g3 hg3 hP hD hS => ?_)
  have hP : va_P (dC, dI) vwCl [(aT, .inr (9, fsaT)), (qB, .inl (cB, 3000, .inl g3))] H := hP
  have hD : va_D A [(aT, .inr (9, fsaT)), (qB, .inl (cB, 3000, .inl g3))] := hD
  refine lv_aload_n hx hb dX9_put_30 rfl (lv_at hl 1 rfl) ?_
  refine lv_dup hx hb dX9_put_31 rfl ?_
  refine va_get (D := (dC, dI)) (ci := 9) (v := .int 8) (C := RX9) (T := TX9) (N := 2) hx hb hts in_c_put8_9 hown hK hP 0 rfl rfl 1 (by decide) (hts (.fieldLink RX9 15 "LanternHouse$Tape" "length" "I") (by decide +kernel)) (fun _ h9 => h9) haT_1 dX9_put_32 ?_
  refine lv_iconst (v := 1) hx hb dX9_put_35 (by decide) ?_
  refine lv_iadd hx hb dX9_put_36 ?_
  refine lv_topi (fun x4 ex4 => ?_)
  obtain rfl : x4 = 9 := ex4.trans (by decide)
  refine va_put (D := (dC, dI)) (ci := 9) (v := .int 9) (ty := .int) (C := RX9) (T := TX9) (N := 2) hx hb hts in_c_put8_9 tyX9 tyX9_ok nmX9 hown hK hP hD hS 0 rfl rfl 1 (by decide) (hts (.fieldLink RX9 15 "LanternHouse$Tape" "length" "I") (by decide +kernel)) (fun _ h9 => h9) rfl (by decide +kernel) rfl rfl (by rw [hlaT]; decide) dX9_put_37 (fun H locs hP hD hS => ?_)
  have hP : va_P (dC, dI) vwCl [(aT, .inr (9, (List.set fsaT 1 (.int 9)))), (qB, .inl (cB, 3000, .inl g3))] H := hP
  have hD : va_D A [(aT, .inr (9, (List.set fsaT 1 (.int 9)))), (qB, .inl (cB, 3000, .inl g3))] := hD
  refine lv_iinc (v := 16) (lv' := [(2, .int 16), (0, .ref aT), (1, .int iW)]) hx hb dX9_put_40 hl (k := 0) rfl (by decide) (by decide) rfl (fun ls hl => ?_)
  refine lv_goto (tgt := 3) hx hb dX9_put_43 (by decide) ?_
  refine lv_iload_n hx hb dX9_put_3 rfl (lv_at hl 0 rfl) ?_
  refine lv_if_lt (tgt := 46) hx hb dX9_put_4 (by decide) (fun zc => absurd zc (by decide)) (fun _ => ?_)
  refine lv_aload_n hx hb dX9_put_7 rfl (lv_at hl 1 rfl) ?_
  refine va_get (D := (dC, dI)) (ci := 9) (v := .int 9) (C := RX9) (T := TX9) (N := 2) hx hb hts in_c_put8_9 hown hK hP 0 rfl rfl 1 (by decide) (hts (.fieldLink RX9 15 "LanternHouse$Tape" "length" "I") (by decide +kernel)) (fun _ h9 => h9) (zset_eq (by rw [hlaT]; decide)) dX9_put_8 ?_
  refine lv_sipush (v := 3000) hx hb dX9_put_11 (by decide) ?_
  refine lv_icmp_ge (tgt := 46) hx hb dX9_put_14 (by decide) (fun zc => absurd zc (by decide)) (fun _ => ?_)
  refine lv_aload_n hx hb dX9_put_17 rfl (lv_at hl 1 rfl) ?_
  refine va_get (D := (dC, dI)) (ci := 9) (v := .ref qB) (C := RX9) (T := TX9) (N := 2) hx hb hts in_c_put8_9 hown hK hP 0 rfl rfl 0 (by decide) (hts (.fieldLink RX9 11 "LanternHouse$Tape" "bytes" "[B") (by decide +kernel)) (fun _ h9 => h9) (zset_ne (by decide) haT_0) dX9_put_18 ?_
  refine lv_aload_n hx hb dX9_put_21 rfl (lv_at hl 1 rfl) ?_
  refine va_get (D := (dC, dI)) (ci := 9) (v := .int 9) (C := RX9) (T := TX9) (N := 2) hx hb hts in_c_put8_9 hown hK hP 0 rfl rfl 1 (by decide) (hts (.fieldLink RX9 15 "LanternHouse$Tape" "length" "I") (by decide +kernel)) (fun _ h9 => h9) (zset_eq (by rw [hlaT]; decide)) dX9_put_22 ?_
  refine lv_iload_n hx hb dX9_put_25 rfl (lv_at hl 2 rfl) ?_
  refine lv_iload_n hx hb dX9_put_26 rfl (lv_at hl 0 rfl) ?_
  refine lv_ishr hx hb dX9_put_27 ?_
  refine lv_topi (fun x5 ex5 => ?_)
  refine lv_i2b hx hb dX9_put_28 rfl ?_
  refine lv_topi (fun x6 ex6 => ?_)
  refine z_bast hx hb hK hP hD hS 1 0 rfl rfl (show ¬ ((9 : Int32) < 0 ∨ 3000 ≤ (9 : Int32).toNatClampNeg) from by decide) dX9_put_29 (fun H locs g7 hg7 hP hD hS => ?_)
  have hP : va_P (dC, dI) vwCl [(aT, .inr (9, (List.set fsaT 1 (.int 9)))), (qB, .inl (cB, 3000, .inl g7))] H := hP
  have hD : va_D A [(aT, .inr (9, (List.set fsaT 1 (.int 9)))), (qB, .inl (cB, 3000, .inl g7))] := hD
  refine lv_aload_n hx hb dX9_put_30 rfl (lv_at hl 1 rfl) ?_
  refine lv_dup hx hb dX9_put_31 rfl ?_
  refine va_get (D := (dC, dI)) (ci := 9) (v := .int 9) (C := RX9) (T := TX9) (N := 2) hx hb hts in_c_put8_9 hown hK hP 0 rfl rfl 1 (by decide) (hts (.fieldLink RX9 15 "LanternHouse$Tape" "length" "I") (by decide +kernel)) (fun _ h9 => h9) (zset_eq (by rw [hlaT]; decide)) dX9_put_32 ?_
  refine lv_iconst (v := 1) hx hb dX9_put_35 (by decide) ?_
  refine lv_iadd hx hb dX9_put_36 ?_
  refine lv_topi (fun x8 ex8 => ?_)
  obtain rfl : x8 = 10 := ex8.trans (by decide)
  refine va_put (D := (dC, dI)) (ci := 9) (v := .int 10) (ty := .int) (C := RX9) (T := TX9) (N := 2) hx hb hts in_c_put8_9 tyX9 tyX9_ok nmX9 hown hK hP hD hS 0 rfl rfl 1 (by decide) (hts (.fieldLink RX9 15 "LanternHouse$Tape" "length" "I") (by decide +kernel)) (fun _ h9 => h9) rfl (by decide +kernel) rfl rfl (by rw [(zset_len hlaT)]; decide) dX9_put_37 (fun H locs hP hD hS => ?_)
  have hP : va_P (dC, dI) vwCl [(aT, .inr (9, (List.set (List.set fsaT 1 (.int 9)) 1 (.int 10)))), (qB, .inl (cB, 3000, .inl g7))] H := hP
  have hD : va_D A [(aT, .inr (9, (List.set (List.set fsaT 1 (.int 9)) 1 (.int 10)))), (qB, .inl (cB, 3000, .inl g7))] := hD
  refine lv_iinc (v := 8) (lv' := [(2, .int 8), (0, .ref aT), (1, .int iW)]) hx hb dX9_put_40 hl (k := 0) rfl (by decide) (by decide) rfl (fun ls hl => ?_)
  refine lv_goto (tgt := 3) hx hb dX9_put_43 (by decide) ?_
  refine lv_iload_n hx hb dX9_put_3 rfl (lv_at hl 0 rfl) ?_
  refine lv_if_lt (tgt := 46) hx hb dX9_put_4 (by decide) (fun zc => absurd zc (by decide)) (fun _ => ?_)
  refine lv_aload_n hx hb dX9_put_7 rfl (lv_at hl 1 rfl) ?_
  refine va_get (D := (dC, dI)) (ci := 9) (v := .int 10) (C := RX9) (T := TX9) (N := 2) hx hb hts in_c_put8_9 hown hK hP 0 rfl rfl 1 (by decide) (hts (.fieldLink RX9 15 "LanternHouse$Tape" "length" "I") (by decide +kernel)) (fun _ h9 => h9) (zset_eq (by rw [(zset_len hlaT)]; decide)) dX9_put_8 ?_
  refine lv_sipush (v := 3000) hx hb dX9_put_11 (by decide) ?_
  refine lv_icmp_ge (tgt := 46) hx hb dX9_put_14 (by decide) (fun zc => absurd zc (by decide)) (fun _ => ?_)
  refine lv_aload_n hx hb dX9_put_17 rfl (lv_at hl 1 rfl) ?_
  refine va_get (D := (dC, dI)) (ci := 9) (v := .ref qB) (C := RX9) (T := TX9) (N := 2) hx hb hts in_c_put8_9 hown hK hP 0 rfl rfl 0 (by decide) (hts (.fieldLink RX9 11 "LanternHouse$Tape" "bytes" "[B") (by decide +kernel)) (fun _ h9 => h9) (zset_ne (by decide) (zset_ne (by decide) haT_0)) dX9_put_18 ?_
  refine lv_aload_n hx hb dX9_put_21 rfl (lv_at hl 1 rfl) ?_
  refine va_get (D := (dC, dI)) (ci := 9) (v := .int 10) (C := RX9) (T := TX9) (N := 2) hx hb hts in_c_put8_9 hown hK hP 0 rfl rfl 1 (by decide) (hts (.fieldLink RX9 15 "LanternHouse$Tape" "length" "I") (by decide +kernel)) (fun _ h9 => h9) (zset_eq (by rw [(zset_len hlaT)]; decide)) dX9_put_22 ?_
  refine lv_iload_n hx hb dX9_put_25 rfl (lv_at hl 2 rfl) ?_
  refine lv_iload_n hx hb dX9_put_26 rfl (lv_at hl 0 rfl) ?_
  refine lv_ishr hx hb dX9_put_27 ?_
  refine lv_topi (fun x9 ex9 => ?_)
  refine lv_i2b hx hb dX9_put_28 rfl ?_
  refine lv_topi (fun x10 ex10 => ?_)
  refine z_bast hx hb hK hP hD hS 1 0 rfl rfl (show ¬ ((10 : Int32) < 0 ∨ 3000 ≤ (10 : Int32).toNatClampNeg) from by decide) dX9_put_29 (fun H locs g11 hg11 hP hD hS => ?_)
  have hP : va_P (dC, dI) vwCl [(aT, .inr (9, (List.set (List.set fsaT 1 (.int 9)) 1 (.int 10)))), (qB, .inl (cB, 3000, .inl g11))] H := hP
  have hD : va_D A [(aT, .inr (9, (List.set (List.set fsaT 1 (.int 9)) 1 (.int 10)))), (qB, .inl (cB, 3000, .inl g11))] := hD
  refine lv_aload_n hx hb dX9_put_30 rfl (lv_at hl 1 rfl) ?_
  refine lv_dup hx hb dX9_put_31 rfl ?_
  refine va_get (D := (dC, dI)) (ci := 9) (v := .int 10) (C := RX9) (T := TX9) (N := 2) hx hb hts in_c_put8_9 hown hK hP 0 rfl rfl 1 (by decide) (hts (.fieldLink RX9 15 "LanternHouse$Tape" "length" "I") (by decide +kernel)) (fun _ h9 => h9) (zset_eq (by rw [(zset_len hlaT)]; decide)) dX9_put_32 ?_
  refine lv_iconst (v := 1) hx hb dX9_put_35 (by decide) ?_
  refine lv_iadd hx hb dX9_put_36 ?_
  refine lv_topi (fun x12 ex12 => ?_)
  obtain rfl : x12 = 11 := ex12.trans (by decide)
  refine va_put (D := (dC, dI)) (ci := 9) (v := .int 11) (ty := .int) (C := RX9) (T := TX9) (N := 2) hx hb hts in_c_put8_9 tyX9 tyX9_ok nmX9 hown hK hP hD hS 0 rfl rfl 1 (by decide) (hts (.fieldLink RX9 15 "LanternHouse$Tape" "length" "I") (by decide +kernel)) (fun _ h9 => h9) rfl (by decide +kernel) rfl rfl (by rw [(zset_len (zset_len hlaT))]; decide) dX9_put_37 (fun H locs hP hD hS => ?_)
  have hP : va_P (dC, dI) vwCl [(aT, .inr (9, (List.set (List.set (List.set fsaT 1 (.int 9)) 1 (.int 10)) 1 (.int 11)))), (qB, .inl (cB, 3000, .inl g11))] H := hP
  have hD : va_D A [(aT, .inr (9, (List.set (List.set (List.set fsaT 1 (.int 9)) 1 (.int 10)) 1 (.int 11)))), (qB, .inl (cB, 3000, .inl g11))] := hD
  refine lv_iinc (v := 0) (lv' := [(2, .int 0), (0, .ref aT), (1, .int iW)]) hx hb dX9_put_40 hl (k := 0) rfl (by decide) (by decide) rfl (fun ls hl => ?_)
  refine lv_goto (tgt := 3) hx hb dX9_put_43 (by decide) ?_
  refine lv_iload_n hx hb dX9_put_3 rfl (lv_at hl 0 rfl) ?_
  refine lv_if_lt (tgt := 46) hx hb dX9_put_4 (by decide) (fun zc => absurd zc (by decide)) (fun _ => ?_)
  refine lv_aload_n hx hb dX9_put_7 rfl (lv_at hl 1 rfl) ?_
  refine va_get (D := (dC, dI)) (ci := 9) (v := .int 11) (C := RX9) (T := TX9) (N := 2) hx hb hts in_c_put8_9 hown hK hP 0 rfl rfl 1 (by decide) (hts (.fieldLink RX9 15 "LanternHouse$Tape" "length" "I") (by decide +kernel)) (fun _ h9 => h9) (zset_eq (by rw [(zset_len (zset_len hlaT))]; decide)) dX9_put_8 ?_
  refine lv_sipush (v := 3000) hx hb dX9_put_11 (by decide) ?_
  refine lv_icmp_ge (tgt := 46) hx hb dX9_put_14 (by decide) (fun zc => absurd zc (by decide)) (fun _ => ?_)
  refine lv_aload_n hx hb dX9_put_17 rfl (lv_at hl 1 rfl) ?_
  refine va_get (D := (dC, dI)) (ci := 9) (v := .ref qB) (C := RX9) (T := TX9) (N := 2) hx hb hts in_c_put8_9 hown hK hP 0 rfl rfl 0 (by decide) (hts (.fieldLink RX9 11 "LanternHouse$Tape" "bytes" "[B") (by decide +kernel)) (fun _ h9 => h9) (zset_ne (by decide) (zset_ne (by decide) (zset_ne (by decide) haT_0))) dX9_put_18 ?_
  refine lv_aload_n hx hb dX9_put_21 rfl (lv_at hl 1 rfl) ?_
  refine va_get (D := (dC, dI)) (ci := 9) (v := .int 11) (C := RX9) (T := TX9) (N := 2) hx hb hts in_c_put8_9 hown hK hP 0 rfl rfl 1 (by decide) (hts (.fieldLink RX9 15 "LanternHouse$Tape" "length" "I") (by decide +kernel)) (fun _ h9 => h9) (zset_eq (by rw [(zset_len (zset_len hlaT))]; decide)) dX9_put_22 ?_
  refine lv_iload_n hx hb dX9_put_25 rfl (lv_at hl 2 rfl) ?_
  refine lv_iload_n hx hb dX9_put_26 rfl (lv_at hl 0 rfl) ?_
  refine lv_ishr hx hb dX9_put_27 ?_
  refine lv_topi (fun x13 ex13 => ?_)
  refine lv_i2b hx hb dX9_put_28 rfl ?_
  refine lv_topi (fun x14 ex14 => ?_)
  refine z_bast hx hb hK hP hD hS 1 0 rfl rfl (show ¬ ((11 : Int32) < 0 ∨ 3000 ≤ (11 : Int32).toNatClampNeg) from by decide) dX9_put_29 (fun H locs g15 hg15 hP hD hS => ?_)
  have hP : va_P (dC, dI) vwCl [(aT, .inr (9, (List.set (List.set (List.set fsaT 1 (.int 9)) 1 (.int 10)) 1 (.int 11)))), (qB, .inl (cB, 3000, .inl g15))] H := hP
  have hD : va_D A [(aT, .inr (9, (List.set (List.set (List.set fsaT 1 (.int 9)) 1 (.int 10)) 1 (.int 11)))), (qB, .inl (cB, 3000, .inl g15))] := hD
  refine lv_aload_n hx hb dX9_put_30 rfl (lv_at hl 1 rfl) ?_
  refine lv_dup hx hb dX9_put_31 rfl ?_
  refine va_get (D := (dC, dI)) (ci := 9) (v := .int 11) (C := RX9) (T := TX9) (N := 2) hx hb hts in_c_put8_9 hown hK hP 0 rfl rfl 1 (by decide) (hts (.fieldLink RX9 15 "LanternHouse$Tape" "length" "I") (by decide +kernel)) (fun _ h9 => h9) (zset_eq (by rw [(zset_len (zset_len hlaT))]; decide)) dX9_put_32 ?_
  refine lv_iconst (v := 1) hx hb dX9_put_35 (by decide) ?_
  refine lv_iadd hx hb dX9_put_36 ?_
  refine lv_topi (fun x16 ex16 => ?_)
  obtain rfl : x16 = 12 := ex16.trans (by decide)
  refine va_put (D := (dC, dI)) (ci := 9) (v := .int 12) (ty := .int) (C := RX9) (T := TX9) (N := 2) hx hb hts in_c_put8_9 tyX9 tyX9_ok nmX9 hown hK hP hD hS 0 rfl rfl 1 (by decide) (hts (.fieldLink RX9 15 "LanternHouse$Tape" "length" "I") (by decide +kernel)) (fun _ h9 => h9) rfl (by decide +kernel) rfl rfl (by rw [(zset_len (zset_len (zset_len hlaT)))]; decide) dX9_put_37 (fun H locs hP hD hS => ?_)
  have hP : va_P (dC, dI) vwCl [(aT, .inr (9, (List.set (List.set (List.set (List.set fsaT 1 (.int 9)) 1 (.int 10)) 1 (.int 11)) 1 (.int 12)))), (qB, .inl (cB, 3000, .inl g15))] H := hP
  have hD : va_D A [(aT, .inr (9, (List.set (List.set (List.set (List.set fsaT 1 (.int 9)) 1 (.int 10)) 1 (.int 11)) 1 (.int 12)))), (qB, .inl (cB, 3000, .inl g15))] := hD
  refine lv_iinc (v := (-8)) (lv' := [(2, .int (-8)), (0, .ref aT), (1, .int iW)]) hx hb dX9_put_40 hl (k := 0) rfl (by decide) (by decide) rfl (fun ls hl => ?_)
  refine lv_goto (tgt := 3) hx hb dX9_put_43 (by decide) ?_
  refine lv_iload_n hx hb dX9_put_3 rfl (lv_at hl 0 rfl) ?_
  refine lv_if_lt (tgt := 46) hx hb dX9_put_4 (by decide) (fun _ => ?_) (fun zc => absurd zc (by decide))
  have hP9 : va_P (dC, dI) vwCl [(aT, .inr (9, (List.set (List.set (List.set (List.set fsaT 1 (.int 9)) 1 (.int 10)) 1 (.int 11)) 1 (.int 12)))), (qB, .inl (cB, 3000, .inl g15))] H := hP.sub [0, 1] rfl
  have hD9 : va_D A [(aT, .inr (9, (List.set (List.set (List.set (List.set fsaT 1 (.int 9)) 1 (.int 10)) 1 (.int 11)) 1 (.int 12)))), (qB, .inl (cB, 3000, .inl g15))] := hD.sub [0, 1] (by decide) rfl
  exact W.vret hx hb hr (fun t ht hW => ⟨⟨(), rfl, trivial, ⟨g15, (List.set (List.set (List.set (List.set fsaT 1 (.int 9)) 1 (.int 10)) 1 (.int 11)) 1 (.int 12)), (zset_len (zset_len (zset_len (zset_len hlaT)))), (fun j hj => ((zfr (by decide) hj).trans ((zfr (by decide) hj).trans ((zfr (by decide) hj).trans ((zfr (by decide) hj).trans rfl))))), (zset_eq (by rw [(zset_len (zset_len (zset_len hlaT)))]; decide)), by rw [ht]; exact hP9, hD9⟩⟩, hS.F ht⟩) hS.2.2 dX9_put_46

def zs_c_put12 : List Cond := .code yX9_put cX9_put 3 none :: (([.fieldLink RX9 15 "LanternHouse$Tape" "length" "I", .fieldLink RX9 11 "LanternHouse$Tape" "bytes" "[B"] : List Cond) ++ (wsX90 ++ []))
theorem gd_c_put12 : (zs_c_put12).all goodWord = true := by decide +kernel
theorem in_c_put12_9 : ∀ w ∈ wsX90, w ∈ zs_c_put12 := fun w h => List.mem_cons_of_mem _ (List.mem_append_right _ (List.mem_append_left _ h))
abbrev ws_c_put12 (cB cI cJ cZ cQ : ClassId) (aT qB : Nat) (iW : Int32) (fB : Nat → Int32) (fsaT : List Value) : va_W := [(aT, .inr (9, fsaT)), (qB, .inl (cB, 3000, .inl fB))]
set_option maxHeartbeats 4000000 in
set_option maxRecDepth 100000 in
theorem c_put12 (l : Launch) (dC : Nat → ClassId) (dI : Nat → Nat → Nat) (cB cI cJ cZ cQ : ClassId) (aT qB : Nat) (iW : Int32) (fB : Nat → Int32) (fsaT : List Value) (sz : Nat) (hlaT : fsaT.length = 2) (haT_0 : fsaT[0]? = some (.ref qB)) (haT_1 : fsaT[1]? = some (.int 12)) : Met l yX9_put zs_c_put12 ({ frames := 0, cells := 0, slots := 0, locals := 0 } : Room) (zPc [.ref aT, .int iW] (dC, dI) (zTY cB cI cJ cZ cQ) (ws_c_put12 cB cI cJ cZ cQ aT qB iW fB fsaT) sz) (va_Qv (fun (_ : Unit) => True) (fun (_ : Unit) (t : State) => ∃ (fB2 : Nat → Int32), ∃ (gsaT : List Value), gsaT.length = 2 ∧ (∀ j : Nat, ¬ j ∈ ([1] : List Nat) → gsaT[j]? = fsaT[j]?) ∧ gsaT[1]? = some (.int 16) ∧ va_P (dC, dI) vwCl [(aT, .inr (9, gsaT)), (qB, .inl (cB, 3000, .inl fB2))] t.heap ∧ va_D (va_A (ws_c_put12 cB cI cJ cZ cQ aT qB iW fB fsaT) sz) [(aT, .inr (9, gsaT)), (qB, .inl (cB, 3000, .inl fB2))]) (va_A (ws_c_put12 cB cI cJ cZ cQ aT qB iW fB fsaT) sz)) 0 0 (va_A (ws_c_put12 cB cI cJ cZ cQ aT qB iW fB fsaT) sz) := by
  refine Met.ofW (cc := cX9_put) (maxL := 3) (ret := none) (by decide) rfl ?_
  intro p e s m args below meth c s₁ B hml hv
  obtain ⟨rfl, hsz, hP0, hK, hO, hD0⟩ := hv
  have hx := B.exec
  have hb := B.bytes
  have hr := B.returns
  have hts := atoms_spec (ws := zs_c_put12) B.pre
  have hown : s.vm.findClass RX9 = some m.cls := findClass_of_methodNamed B.named
  have hlocks := B.notSynchronized
  subst hsz
  have hD8 := hD0.self (sz := s.heap.size)
  generalize hAe : va_A (ws_c_put12 cB cI cJ cZ cQ aT qB iW fB fsaT) s.heap.size = A at hD8 ⊢
  have hA : ∀ q : Nat, s.heap.size ≤ q → A q := fun q h => by rw [← hAe]; exact Or.inr h
  have hS : va_S A s.heap s.heap [] := va_S.rf
  have hP : va_P (dC, dI) vwCl [(aT, .inr (9, fsaT)), (qB, .inl (cB, 3000, .inl fB))] s.heap := hP0
  have hD : va_D A [(aT, .inr (9, fsaT)), (qB, .inl (cB, 3000, .inl fB))] := hD8
  have hl := lv_entry ([.ref aT, .int iW]) (n := 3) (Nat.le_of_ble_eq_true rfl)
  rw [lg_entry_eq]
  generalize (lg_sl ([.ref aT, .int iW]) ++ List.replicate (3 - (lg_sl ([.ref aT, .int iW])).length) Slot.unset).toArray = ls at hl ⊢
  have hl : lv_has ls 3 [(0, .ref aT), (1, .int iW)] := hl
  clear hP0 hD8 hD0
  refine zH0 (fun H hP hS => ?_) hP hS
  refine lv_bipush (v := 24) hx hb dX9_put_0 (by decide) ?_
  refine lv_istore_n (lv' := [(2, .int 24), (0, .ref aT), (1, .int iW)]) hx hb dX9_put_2 rfl hl (by decide) rfl (fun ls hl => ?_)
  refine lv_iload_n hx hb dX9_put_3 rfl (lv_at hl 0 rfl) ?_
  refine lv_if_lt (tgt := 46) hx hb dX9_put_4 (by decide) (fun zc => absurd zc (by decide)) (fun _ => ?_)
  refine lv_aload_n hx hb dX9_put_7 rfl (lv_at hl 1 rfl) ?_
  refine va_get (D := (dC, dI)) (ci := 9) (v := .int 12) (C := RX9) (T := TX9) (N := 2) hx hb hts in_c_put12_9 hown hK hP 0 rfl rfl 1 (by decide) (hts (.fieldLink RX9 15 "LanternHouse$Tape" "length" "I") (by decide +kernel)) (fun _ h9 => h9) haT_1 dX9_put_8 ?_
  refine lv_sipush (v := 3000) hx hb dX9_put_11 (by decide) ?_
  refine lv_icmp_ge (tgt := 46) hx hb dX9_put_14 (by decide) (fun zc => absurd zc (by decide)) (fun _ => ?_)
  refine lv_aload_n hx hb dX9_put_17 rfl (lv_at hl 1 rfl) ?_
  refine va_get (D := (dC, dI)) (ci := 9) (v := .ref qB) (C := RX9) (T := TX9) (N := 2) hx hb hts in_c_put12_9 hown hK hP 0 rfl rfl 0 (by decide) (hts (.fieldLink RX9 11 "LanternHouse$Tape" "bytes" "[B") (by decide +kernel)) (fun _ h9 => h9) haT_0 dX9_put_18 ?_
  refine lv_aload_n hx hb dX9_put_21 rfl (lv_at hl 1 rfl) ?_
  refine va_get (D := (dC, dI)) (ci := 9) (v := .int 12) (C := RX9) (T := TX9) (N := 2) hx hb hts in_c_put12_9 hown hK hP 0 rfl rfl 1 (by decide) (hts (.fieldLink RX9 15 "LanternHouse$Tape" "length" "I") (by decide +kernel)) (fun _ h9 => h9) haT_1 dX9_put_22 ?_
  refine lv_iload_n hx hb dX9_put_25 rfl (lv_at hl 2 rfl) ?_
  refine lv_iload_n hx hb dX9_put_26 rfl (lv_at hl 0 rfl) ?_
  refine lv_ishr hx hb dX9_put_27 ?_
  refine lv_topi (fun x1 ex1 => ?_)
  refine lv_i2b hx hb dX9_put_28 rfl ?_
  refine lv_topi (fun x2 ex2 => ?_)
  refine z_bast hx hb hK hP hD hS 1 0 rfl rfl (show ¬ ((12 : Int32) < 0 ∨ 3000 ≤ (12 : Int32).toNatClampNeg) from by decide) dX9_put_29 (fun H locs g3 hg3 hP hD hS => ?_)
  have hP : va_P (dC, dI) vwCl [(aT, .inr (9, fsaT)), (qB, .inl (cB, 3000, .inl g3))] H := hP
  have hD : va_D A [(aT, .inr (9, fsaT)), (qB, .inl (cB, 3000, .inl g3))] := hD
  refine lv_aload_n hx hb dX9_put_30 rfl (lv_at hl 1 rfl) ?_
  refine lv_dup hx hb dX9_put_31 rfl ?_
  refine va_get (D := (dC, dI)) (ci := 9) (v := .int 12) (C := RX9) (T := TX9) (N := 2) hx hb hts in_c_put12_9 hown hK hP 0 rfl rfl 1 (by decide) (hts (.fieldLink RX9 15 "LanternHouse$Tape" "length" "I") (by decide +kernel)) (fun _ h9 => h9) haT_1 dX9_put_32 ?_
  refine lv_iconst (v := 1) hx hb dX9_put_35 (by decide) ?_
  refine lv_iadd hx hb dX9_put_36 ?_
  refine lv_topi (fun x4 ex4 => ?_)
  obtain rfl : x4 = 13 := ex4.trans (by decide)
  refine va_put (D := (dC, dI)) (ci := 9) (v := .int 13) (ty := .int) (C := RX9) (T := TX9) (N := 2) hx hb hts in_c_put12_9 tyX9 tyX9_ok nmX9 hown hK hP hD hS 0 rfl rfl 1 (by decide) (hts (.fieldLink RX9 15 "LanternHouse$Tape" "length" "I") (by decide +kernel)) (fun _ h9 => h9) rfl (by decide +kernel) rfl rfl (by rw [hlaT]; decide) dX9_put_37 (fun H locs hP hD hS => ?_)
  have hP : va_P (dC, dI) vwCl [(aT, .inr (9, (List.set fsaT 1 (.int 13)))), (qB, .inl (cB, 3000, .inl g3))] H := hP
  have hD : va_D A [(aT, .inr (9, (List.set fsaT 1 (.int 13)))), (qB, .inl (cB, 3000, .inl g3))] := hD
  refine lv_iinc (v := 16) (lv' := [(2, .int 16), (0, .ref aT), (1, .int iW)]) hx hb dX9_put_40 hl (k := 0) rfl (by decide) (by decide) rfl (fun ls hl => ?_)
  refine lv_goto (tgt := 3) hx hb dX9_put_43 (by decide) ?_
  refine lv_iload_n hx hb dX9_put_3 rfl (lv_at hl 0 rfl) ?_
  refine lv_if_lt (tgt := 46) hx hb dX9_put_4 (by decide) (fun zc => absurd zc (by decide)) (fun _ => ?_)
  refine lv_aload_n hx hb dX9_put_7 rfl (lv_at hl 1 rfl) ?_
  refine va_get (D := (dC, dI)) (ci := 9) (v := .int 13) (C := RX9) (T := TX9) (N := 2) hx hb hts in_c_put12_9 hown hK hP 0 rfl rfl 1 (by decide) (hts (.fieldLink RX9 15 "LanternHouse$Tape" "length" "I") (by decide +kernel)) (fun _ h9 => h9) (zset_eq (by rw [hlaT]; decide)) dX9_put_8 ?_
  refine lv_sipush (v := 3000) hx hb dX9_put_11 (by decide) ?_
  refine lv_icmp_ge (tgt := 46) hx hb dX9_put_14 (by decide) (fun zc => absurd zc (by decide)) (fun _ => ?_)
  refine lv_aload_n hx hb dX9_put_17 rfl (lv_at hl 1 rfl) ?_
  refine va_get (D := (dC, dI)) (ci := 9) (v := .ref qB) (C := RX9) (T := TX9) (N := 2) hx hb hts in_c_put12_9 hown hK hP 0 rfl rfl 0 (by decide) (hts (.fieldLink RX9 11 "LanternHouse$Tape" "bytes" "[B") (by decide +kernel)) (fun _ h9 => h9) (zset_ne (by decide) haT_0) dX9_put_18 ?_
  refine lv_aload_n hx hb dX9_put_21 rfl (lv_at hl 1 rfl) ?_
  refine va_get (D := (dC, dI)) (ci := 9) (v := .int 13) (C := RX9) (T := TX9) (N := 2) hx hb hts in_c_put12_9 hown hK hP 0 rfl rfl 1 (by decide) (hts (.fieldLink RX9 15 "LanternHouse$Tape" "length" "I") (by decide +kernel)) (fun _ h9 => h9) (zset_eq (by rw [hlaT]; decide)) dX9_put_22 ?_
  refine lv_iload_n hx hb dX9_put_25 rfl (lv_at hl 2 rfl) ?_
  refine lv_iload_n hx hb dX9_put_26 rfl (lv_at hl 0 rfl) ?_
  refine lv_ishr hx hb dX9_put_27 ?_
  refine lv_topi (fun x5 ex5 => ?_)
  refine lv_i2b hx hb dX9_put_28 rfl ?_
  refine lv_topi (fun x6 ex6 => ?_)
  refine z_bast hx hb hK hP hD hS 1 0 rfl rfl (show ¬ ((13 : Int32) < 0 ∨ 3000 ≤ (13 : Int32).toNatClampNeg) from by decide) dX9_put_29 (fun H locs g7 hg7 hP hD hS => ?_)
  have hP : va_P (dC, dI) vwCl [(aT, .inr (9, (List.set fsaT 1 (.int 13)))), (qB, .inl (cB, 3000, .inl g7))] H := hP
  have hD : va_D A [(aT, .inr (9, (List.set fsaT 1 (.int 13)))), (qB, .inl (cB, 3000, .inl g7))] := hD
  refine lv_aload_n hx hb dX9_put_30 rfl (lv_at hl 1 rfl) ?_
  refine lv_dup hx hb dX9_put_31 rfl ?_
  refine va_get (D := (dC, dI)) (ci := 9) (v := .int 13) (C := RX9) (T := TX9) (N := 2) hx hb hts in_c_put12_9 hown hK hP 0 rfl rfl 1 (by decide) (hts (.fieldLink RX9 15 "LanternHouse$Tape" "length" "I") (by decide +kernel)) (fun _ h9 => h9) (zset_eq (by rw [hlaT]; decide)) dX9_put_32 ?_
  refine lv_iconst (v := 1) hx hb dX9_put_35 (by decide) ?_
  refine lv_iadd hx hb dX9_put_36 ?_
  refine lv_topi (fun x8 ex8 => ?_)
  obtain rfl : x8 = 14 := ex8.trans (by decide)
  refine va_put (D := (dC, dI)) (ci := 9) (v := .int 14) (ty := .int) (C := RX9) (T := TX9) (N := 2) hx hb hts in_c_put12_9 tyX9 tyX9_ok nmX9 hown hK hP hD hS 0 rfl rfl 1 (by decide) (hts (.fieldLink RX9 15 "LanternHouse$Tape" "length" "I") (by decide +kernel)) (fun _ h9 => h9) rfl (by decide +kernel) rfl rfl (by rw [(zset_len hlaT)]; decide) dX9_put_37 (fun H locs hP hD hS => ?_)
  have hP : va_P (dC, dI) vwCl [(aT, .inr (9, (List.set (List.set fsaT 1 (.int 13)) 1 (.int 14)))), (qB, .inl (cB, 3000, .inl g7))] H := hP
  have hD : va_D A [(aT, .inr (9, (List.set (List.set fsaT 1 (.int 13)) 1 (.int 14)))), (qB, .inl (cB, 3000, .inl g7))] := hD
  refine lv_iinc (v := 8) (lv' := [(2, .int 8), (0, .ref aT), (1, .int iW)]) hx hb dX9_put_40 hl (k := 0) rfl (by decide) (by decide) rfl (fun ls hl => ?_)
  refine lv_goto (tgt := 3) hx hb dX9_put_43 (by decide) ?_
  refine lv_iload_n hx hb dX9_put_3 rfl (lv_at hl 0 rfl) ?_
  refine lv_if_lt (tgt := 46) hx hb dX9_put_4 (by decide) (fun zc => absurd zc (by decide)) (fun _ => ?_)
  refine lv_aload_n hx hb dX9_put_7 rfl (lv_at hl 1 rfl) ?_
  refine va_get (D := (dC, dI)) (ci := 9) (v := .int 14) (C := RX9) (T := TX9) (N := 2) hx hb hts in_c_put12_9 hown hK hP 0 rfl rfl 1 (by decide) (hts (.fieldLink RX9 15 "LanternHouse$Tape" "length" "I") (by decide +kernel)) (fun _ h9 => h9) (zset_eq (by rw [(zset_len hlaT)]; decide)) dX9_put_8 ?_
  refine lv_sipush (v := 3000) hx hb dX9_put_11 (by decide) ?_
  refine lv_icmp_ge (tgt := 46) hx hb dX9_put_14 (by decide) (fun zc => absurd zc (by decide)) (fun _ => ?_)
  refine lv_aload_n hx hb dX9_put_17 rfl (lv_at hl 1 rfl) ?_
  refine va_get (D := (dC, dI)) (ci := 9) (v := .ref qB) (C := RX9) (T := TX9) (N := 2) hx hb hts in_c_put12_9 hown hK hP 0 rfl rfl 0 (by decide) (hts (.fieldLink RX9 11 "LanternHouse$Tape" "bytes" "[B") (by decide +kernel)) (fun _ h9 => h9) (zset_ne (by decide) (zset_ne (by decide) haT_0)) dX9_put_18 ?_
  refine lv_aload_n hx hb dX9_put_21 rfl (lv_at hl 1 rfl) ?_
  refine va_get (D := (dC, dI)) (ci := 9) (v := .int 14) (C := RX9) (T := TX9) (N := 2) hx hb hts in_c_put12_9 hown hK hP 0 rfl rfl 1 (by decide) (hts (.fieldLink RX9 15 "LanternHouse$Tape" "length" "I") (by decide +kernel)) (fun _ h9 => h9) (zset_eq (by rw [(zset_len hlaT)]; decide)) dX9_put_22 ?_
  refine lv_iload_n hx hb dX9_put_25 rfl (lv_at hl 2 rfl) ?_
  refine lv_iload_n hx hb dX9_put_26 rfl (lv_at hl 0 rfl) ?_
  refine lv_ishr hx hb dX9_put_27 ?_
  refine lv_topi (fun x9 ex9 => ?_)
  refine lv_i2b hx hb dX9_put_28 rfl ?_
  refine lv_topi (fun x10 ex10 => ?_)
  refine z_bast hx hb hK hP hD hS 1 0 rfl rfl (show ¬ ((14 : Int32) < 0 ∨ 3000 ≤ (14 : Int32).toNatClampNeg) from by decide) dX9_put_29 (fun H locs g11 hg11 hP hD hS => ?_)
  have hP : va_P (dC, dI) vwCl [(aT, .inr (9, (List.set (List.set fsaT 1 (.int 13)) 1 (.int 14)))), (qB, .inl (cB, 3000, .inl g11))] H := hP
  have hD : va_D A [(aT, .inr (9, (List.set (List.set fsaT 1 (.int 13)) 1 (.int 14)))), (qB, .inl (cB, 3000, .inl g11))] := hD
  refine lv_aload_n hx hb dX9_put_30 rfl (lv_at hl 1 rfl) ?_
  refine lv_dup hx hb dX9_put_31 rfl ?_
  refine va_get (D := (dC, dI)) (ci := 9) (v := .int 14) (C := RX9) (T := TX9) (N := 2) hx hb hts in_c_put12_9 hown hK hP 0 rfl rfl 1 (by decide) (hts (.fieldLink RX9 15 "LanternHouse$Tape" "length" "I") (by decide +kernel)) (fun _ h9 => h9) (zset_eq (by rw [(zset_len hlaT)]; decide)) dX9_put_32 ?_
  refine lv_iconst (v := 1) hx hb dX9_put_35 (by decide) ?_
  refine lv_iadd hx hb dX9_put_36 ?_
  refine lv_topi (fun x12 ex12 => ?_)
  obtain rfl : x12 = 15 := ex12.trans (by decide)
  refine va_put (D := (dC, dI)) (ci := 9) (v := .int 15) (ty := .int) (C := RX9) (T := TX9) (N := 2) hx hb hts in_c_put12_9 tyX9 tyX9_ok nmX9 hown hK hP hD hS 0 rfl rfl 1 (by decide) (hts (.fieldLink RX9 15 "LanternHouse$Tape" "length" "I") (by decide +kernel)) (fun _ h9 => h9) rfl (by decide +kernel) rfl rfl (by rw [(zset_len (zset_len hlaT))]; decide) dX9_put_37 (fun H locs hP hD hS => ?_)
  have hP : va_P (dC, dI) vwCl [(aT, .inr (9, (List.set (List.set (List.set fsaT 1 (.int 13)) 1 (.int 14)) 1 (.int 15)))), (qB, .inl (cB, 3000, .inl g11))] H := hP
  have hD : va_D A [(aT, .inr (9, (List.set (List.set (List.set fsaT 1 (.int 13)) 1 (.int 14)) 1 (.int 15)))), (qB, .inl (cB, 3000, .inl g11))] := hD
  refine lv_iinc (v := 0) (lv' := [(2, .int 0), (0, .ref aT), (1, .int iW)]) hx hb dX9_put_40 hl (k := 0) rfl (by decide) (by decide) rfl (fun ls hl => ?_)
  refine lv_goto (tgt := 3) hx hb dX9_put_43 (by decide) ?_
  refine lv_iload_n hx hb dX9_put_3 rfl (lv_at hl 0 rfl) ?_
  refine lv_if_lt (tgt := 46) hx hb dX9_put_4 (by decide) (fun zc => absurd zc (by decide)) (fun _ => ?_)
  refine lv_aload_n hx hb dX9_put_7 rfl (lv_at hl 1 rfl) ?_
  refine va_get (D := (dC, dI)) (ci := 9) (v := .int 15) (C := RX9) (T := TX9) (N := 2) hx hb hts in_c_put12_9 hown hK hP 0 rfl rfl 1 (by decide) (hts (.fieldLink RX9 15 "LanternHouse$Tape" "length" "I") (by decide +kernel)) (fun _ h9 => h9) (zset_eq (by rw [(zset_len (zset_len hlaT))]; decide)) dX9_put_8 ?_
  refine lv_sipush (v := 3000) hx hb dX9_put_11 (by decide) ?_
  refine lv_icmp_ge (tgt := 46) hx hb dX9_put_14 (by decide) (fun zc => absurd zc (by decide)) (fun _ => ?_)
  refine lv_aload_n hx hb dX9_put_17 rfl (lv_at hl 1 rfl) ?_
  refine va_get (D := (dC, dI)) (ci := 9) (v := .ref qB) (C := RX9) (T := TX9) (N := 2) hx hb hts in_c_put12_9 hown hK hP 0 rfl rfl 0 (by decide) (hts (.fieldLink RX9 11 "LanternHouse$Tape" "bytes" "[B") (by decide +kernel)) (fun _ h9 => h9) (zset_ne (by decide) (zset_ne (by decide) (zset_ne (by decide) haT_0))) dX9_put_18 ?_
  refine lv_aload_n hx hb dX9_put_21 rfl (lv_at hl 1 rfl) ?_
  refine va_get (D := (dC, dI)) (ci := 9) (v := .int 15) (C := RX9) (T := TX9) (N := 2) hx hb hts in_c_put12_9 hown hK hP 0 rfl rfl 1 (by decide) (hts (.fieldLink RX9 15 "LanternHouse$Tape" "length" "I") (by decide +kernel)) (fun _ h9 => h9) (zset_eq (by rw [(zset_len (zset_len hlaT))]; decide)) dX9_put_22 ?_
  refine lv_iload_n hx hb dX9_put_25 rfl (lv_at hl 2 rfl) ?_
  refine lv_iload_n hx hb dX9_put_26 rfl (lv_at hl 0 rfl) ?_
  refine lv_ishr hx hb dX9_put_27 ?_
  refine lv_topi (fun x13 ex13 => ?_)
  refine lv_i2b hx hb dX9_put_28 rfl ?_
  refine lv_topi (fun x14 ex14 => ?_)
  refine z_bast hx hb hK hP hD hS 1 0 rfl rfl (show ¬ ((15 : Int32) < 0 ∨ 3000 ≤ (15 : Int32).toNatClampNeg) from by decide) dX9_put_29 (fun H locs g15 hg15 hP hD hS => ?_)
  have hP : va_P (dC, dI) vwCl [(aT, .inr (9, (List.set (List.set (List.set fsaT 1 (.int 13)) 1 (.int 14)) 1 (.int 15)))), (qB, .inl (cB, 3000, .inl g15))] H := hP
  have hD : va_D A [(aT, .inr (9, (List.set (List.set (List.set fsaT 1 (.int 13)) 1 (.int 14)) 1 (.int 15)))), (qB, .inl (cB, 3000, .inl g15))] := hD
  refine lv_aload_n hx hb dX9_put_30 rfl (lv_at hl 1 rfl) ?_
  refine lv_dup hx hb dX9_put_31 rfl ?_
  refine va_get (D := (dC, dI)) (ci := 9) (v := .int 15) (C := RX9) (T := TX9) (N := 2) hx hb hts in_c_put12_9 hown hK hP 0 rfl rfl 1 (by decide) (hts (.fieldLink RX9 15 "LanternHouse$Tape" "length" "I") (by decide +kernel)) (fun _ h9 => h9) (zset_eq (by rw [(zset_len (zset_len hlaT))]; decide)) dX9_put_32 ?_
  refine lv_iconst (v := 1) hx hb dX9_put_35 (by decide) ?_
  refine lv_iadd hx hb dX9_put_36 ?_
  refine lv_topi (fun x16 ex16 => ?_)
  obtain rfl : x16 = 16 := ex16.trans (by decide)
  refine va_put (D := (dC, dI)) (ci := 9) (v := .int 16) (ty := .int) (C := RX9) (T := TX9) (N := 2) hx hb hts in_c_put12_9 tyX9 tyX9_ok nmX9 hown hK hP hD hS 0 rfl rfl 1 (by decide) (hts (.fieldLink RX9 15 "LanternHouse$Tape" "length" "I") (by decide +kernel)) (fun _ h9 => h9) rfl (by decide +kernel) rfl rfl (by rw [(zset_len (zset_len (zset_len hlaT)))]; decide) dX9_put_37 (fun H locs hP hD hS => ?_)
  have hP : va_P (dC, dI) vwCl [(aT, .inr (9, (List.set (List.set (List.set (List.set fsaT 1 (.int 13)) 1 (.int 14)) 1 (.int 15)) 1 (.int 16)))), (qB, .inl (cB, 3000, .inl g15))] H := hP
  have hD : va_D A [(aT, .inr (9, (List.set (List.set (List.set (List.set fsaT 1 (.int 13)) 1 (.int 14)) 1 (.int 15)) 1 (.int 16)))), (qB, .inl (cB, 3000, .inl g15))] := hD
  refine lv_iinc (v := (-8)) (lv' := [(2, .int (-8)), (0, .ref aT), (1, .int iW)]) hx hb dX9_put_40 hl (k := 0) rfl (by decide) (by decide) rfl (fun ls hl => ?_)
  refine lv_goto (tgt := 3) hx hb dX9_put_43 (by decide) ?_
  refine lv_iload_n hx hb dX9_put_3 rfl (lv_at hl 0 rfl) ?_
  refine lv_if_lt (tgt := 46) hx hb dX9_put_4 (by decide) (fun _ => ?_) (fun zc => absurd zc (by decide))
  have hP9 : va_P (dC, dI) vwCl [(aT, .inr (9, (List.set (List.set (List.set (List.set fsaT 1 (.int 13)) 1 (.int 14)) 1 (.int 15)) 1 (.int 16)))), (qB, .inl (cB, 3000, .inl g15))] H := hP.sub [0, 1] rfl
  have hD9 : va_D A [(aT, .inr (9, (List.set (List.set (List.set (List.set fsaT 1 (.int 13)) 1 (.int 14)) 1 (.int 15)) 1 (.int 16)))), (qB, .inl (cB, 3000, .inl g15))] := hD.sub [0, 1] (by decide) rfl
  exact W.vret hx hb hr (fun t ht hW => ⟨⟨(), rfl, trivial, ⟨g15, (List.set (List.set (List.set (List.set fsaT 1 (.int 13)) 1 (.int 14)) 1 (.int 15)) 1 (.int 16)), (zset_len (zset_len (zset_len (zset_len hlaT)))), (fun j hj => ((zfr (by decide) hj).trans ((zfr (by decide) hj).trans ((zfr (by decide) hj).trans ((zfr (by decide) hj).trans rfl))))), (zset_eq (by rw [(zset_len (zset_len (zset_len hlaT)))]; decide)), by rw [ht]; exact hP9, hD9⟩⟩, hS.F ht⟩) hS.2.2 dX9_put_46

def zs_c_put16 : List Cond := .code yX9_put cX9_put 3 none :: (([.fieldLink RX9 15 "LanternHouse$Tape" "length" "I", .fieldLink RX9 11 "LanternHouse$Tape" "bytes" "[B"] : List Cond) ++ (wsX90 ++ []))
theorem gd_c_put16 : (zs_c_put16).all goodWord = true := by decide +kernel
theorem in_c_put16_9 : ∀ w ∈ wsX90, w ∈ zs_c_put16 := fun w h => List.mem_cons_of_mem _ (List.mem_append_right _ (List.mem_append_left _ h))
abbrev ws_c_put16 (cB cI cJ cZ cQ : ClassId) (aT qB : Nat) (iW : Int32) (fB : Nat → Int32) (fsaT : List Value) : va_W := [(aT, .inr (9, fsaT)), (qB, .inl (cB, 3000, .inl fB))]
set_option maxHeartbeats 4000000 in
set_option maxRecDepth 100000 in
theorem c_put16 (l : Launch) (dC : Nat → ClassId) (dI : Nat → Nat → Nat) (cB cI cJ cZ cQ : ClassId) (aT qB : Nat) (iW : Int32) (fB : Nat → Int32) (fsaT : List Value) (sz : Nat) (hlaT : fsaT.length = 2) (haT_0 : fsaT[0]? = some (.ref qB)) (haT_1 : fsaT[1]? = some (.int 16)) : Met l yX9_put zs_c_put16 ({ frames := 0, cells := 0, slots := 0, locals := 0 } : Room) (zPc [.ref aT, .int iW] (dC, dI) (zTY cB cI cJ cZ cQ) (ws_c_put16 cB cI cJ cZ cQ aT qB iW fB fsaT) sz) (va_Qv (fun (_ : Unit) => True) (fun (_ : Unit) (t : State) => ∃ (fB2 : Nat → Int32), ∃ (gsaT : List Value), gsaT.length = 2 ∧ (∀ j : Nat, ¬ j ∈ ([1] : List Nat) → gsaT[j]? = fsaT[j]?) ∧ gsaT[1]? = some (.int 20) ∧ va_P (dC, dI) vwCl [(aT, .inr (9, gsaT)), (qB, .inl (cB, 3000, .inl fB2))] t.heap ∧ va_D (va_A (ws_c_put16 cB cI cJ cZ cQ aT qB iW fB fsaT) sz) [(aT, .inr (9, gsaT)), (qB, .inl (cB, 3000, .inl fB2))]) (va_A (ws_c_put16 cB cI cJ cZ cQ aT qB iW fB fsaT) sz)) 0 0 (va_A (ws_c_put16 cB cI cJ cZ cQ aT qB iW fB fsaT) sz) := by
  refine Met.ofW (cc := cX9_put) (maxL := 3) (ret := none) (by decide) rfl ?_
  intro p e s m args below meth c s₁ B hml hv
  obtain ⟨rfl, hsz, hP0, hK, hO, hD0⟩ := hv
  have hx := B.exec
  have hb := B.bytes
  have hr := B.returns
  have hts := atoms_spec (ws := zs_c_put16) B.pre
  have hown : s.vm.findClass RX9 = some m.cls := findClass_of_methodNamed B.named
  have hlocks := B.notSynchronized
  subst hsz
  have hD8 := hD0.self (sz := s.heap.size)
  generalize hAe : va_A (ws_c_put16 cB cI cJ cZ cQ aT qB iW fB fsaT) s.heap.size = A at hD8 ⊢
  have hA : ∀ q : Nat, s.heap.size ≤ q → A q := fun q h => by rw [← hAe]; exact Or.inr h
  have hS : va_S A s.heap s.heap [] := va_S.rf
  have hP : va_P (dC, dI) vwCl [(aT, .inr (9, fsaT)), (qB, .inl (cB, 3000, .inl fB))] s.heap := hP0
  have hD : va_D A [(aT, .inr (9, fsaT)), (qB, .inl (cB, 3000, .inl fB))] := hD8
  have hl := lv_entry ([.ref aT, .int iW]) (n := 3) (Nat.le_of_ble_eq_true rfl)
  rw [lg_entry_eq]
  generalize (lg_sl ([.ref aT, .int iW]) ++ List.replicate (3 - (lg_sl ([.ref aT, .int iW])).length) Slot.unset).toArray = ls at hl ⊢
  have hl : lv_has ls 3 [(0, .ref aT), (1, .int iW)] := hl
  clear hP0 hD8 hD0
  refine zH0 (fun H hP hS => ?_) hP hS
  refine lv_bipush (v := 24) hx hb dX9_put_0 (by decide) ?_
  refine lv_istore_n (lv' := [(2, .int 24), (0, .ref aT), (1, .int iW)]) hx hb dX9_put_2 rfl hl (by decide) rfl (fun ls hl => ?_)
  refine lv_iload_n hx hb dX9_put_3 rfl (lv_at hl 0 rfl) ?_
  refine lv_if_lt (tgt := 46) hx hb dX9_put_4 (by decide) (fun zc => absurd zc (by decide)) (fun _ => ?_)
  refine lv_aload_n hx hb dX9_put_7 rfl (lv_at hl 1 rfl) ?_
  refine va_get (D := (dC, dI)) (ci := 9) (v := .int 16) (C := RX9) (T := TX9) (N := 2) hx hb hts in_c_put16_9 hown hK hP 0 rfl rfl 1 (by decide) (hts (.fieldLink RX9 15 "LanternHouse$Tape" "length" "I") (by decide +kernel)) (fun _ h9 => h9) haT_1 dX9_put_8 ?_
  refine lv_sipush (v := 3000) hx hb dX9_put_11 (by decide) ?_
  refine lv_icmp_ge (tgt := 46) hx hb dX9_put_14 (by decide) (fun zc => absurd zc (by decide)) (fun _ => ?_)
  refine lv_aload_n hx hb dX9_put_17 rfl (lv_at hl 1 rfl) ?_
  refine va_get (D := (dC, dI)) (ci := 9) (v := .ref qB) (C := RX9) (T := TX9) (N := 2) hx hb hts in_c_put16_9 hown hK hP 0 rfl rfl 0 (by decide) (hts (.fieldLink RX9 11 "LanternHouse$Tape" "bytes" "[B") (by decide +kernel)) (fun _ h9 => h9) haT_0 dX9_put_18 ?_
  refine lv_aload_n hx hb dX9_put_21 rfl (lv_at hl 1 rfl) ?_
  refine va_get (D := (dC, dI)) (ci := 9) (v := .int 16) (C := RX9) (T := TX9) (N := 2) hx hb hts in_c_put16_9 hown hK hP 0 rfl rfl 1 (by decide) (hts (.fieldLink RX9 15 "LanternHouse$Tape" "length" "I") (by decide +kernel)) (fun _ h9 => h9) haT_1 dX9_put_22 ?_
  refine lv_iload_n hx hb dX9_put_25 rfl (lv_at hl 2 rfl) ?_
  refine lv_iload_n hx hb dX9_put_26 rfl (lv_at hl 0 rfl) ?_
  refine lv_ishr hx hb dX9_put_27 ?_
  refine lv_topi (fun x1 ex1 => ?_)
  refine lv_i2b hx hb dX9_put_28 rfl ?_
  refine lv_topi (fun x2 ex2 => ?_)
  refine z_bast hx hb hK hP hD hS 1 0 rfl rfl (show ¬ ((16 : Int32) < 0 ∨ 3000 ≤ (16 : Int32).toNatClampNeg) from by decide) dX9_put_29 (fun H locs g3 hg3 hP hD hS => ?_)
  have hP : va_P (dC, dI) vwCl [(aT, .inr (9, fsaT)), (qB, .inl (cB, 3000, .inl g3))] H := hP
  have hD : va_D A [(aT, .inr (9, fsaT)), (qB, .inl (cB, 3000, .inl g3))] := hD
  refine lv_aload_n hx hb dX9_put_30 rfl (lv_at hl 1 rfl) ?_
  refine lv_dup hx hb dX9_put_31 rfl ?_
  refine va_get (D := (dC, dI)) (ci := 9) (v := .int 16) (C := RX9) (T := TX9) (N := 2) hx hb hts in_c_put16_9 hown hK hP 0 rfl rfl 1 (by decide) (hts (.fieldLink RX9 15 "LanternHouse$Tape" "length" "I") (by decide +kernel)) (fun _ h9 => h9) haT_1 dX9_put_32 ?_
  refine lv_iconst (v := 1) hx hb dX9_put_35 (by decide) ?_
  refine lv_iadd hx hb dX9_put_36 ?_
  refine lv_topi (fun x4 ex4 => ?_)
  obtain rfl : x4 = 17 := ex4.trans (by decide)
  refine va_put (D := (dC, dI)) (ci := 9) (v := .int 17) (ty := .int) (C := RX9) (T := TX9) (N := 2) hx hb hts in_c_put16_9 tyX9 tyX9_ok nmX9 hown hK hP hD hS 0 rfl rfl 1 (by decide) (hts (.fieldLink RX9 15 "LanternHouse$Tape" "length" "I") (by decide +kernel)) (fun _ h9 => h9) rfl (by decide +kernel) rfl rfl (by rw [hlaT]; decide) dX9_put_37 (fun H locs hP hD hS => ?_)
  have hP : va_P (dC, dI) vwCl [(aT, .inr (9, (List.set fsaT 1 (.int 17)))), (qB, .inl (cB, 3000, .inl g3))] H := hP
  have hD : va_D A [(aT, .inr (9, (List.set fsaT 1 (.int 17)))), (qB, .inl (cB, 3000, .inl g3))] := hD
  refine lv_iinc (v := 16) (lv' := [(2, .int 16), (0, .ref aT), (1, .int iW)]) hx hb dX9_put_40 hl (k := 0) rfl (by decide) (by decide) rfl (fun ls hl => ?_)
  refine lv_goto (tgt := 3) hx hb dX9_put_43 (by decide) ?_
  refine lv_iload_n hx hb dX9_put_3 rfl (lv_at hl 0 rfl) ?_
  refine lv_if_lt (tgt := 46) hx hb dX9_put_4 (by decide) (fun zc => absurd zc (by decide)) (fun _ => ?_)
  refine lv_aload_n hx hb dX9_put_7 rfl (lv_at hl 1 rfl) ?_
  refine va_get (D := (dC, dI)) (ci := 9) (v := .int 17) (C := RX9) (T := TX9) (N := 2) hx hb hts in_c_put16_9 hown hK hP 0 rfl rfl 1 (by decide) (hts (.fieldLink RX9 15 "LanternHouse$Tape" "length" "I") (by decide +kernel)) (fun _ h9 => h9) (zset_eq (by rw [hlaT]; decide)) dX9_put_8 ?_
  refine lv_sipush (v := 3000) hx hb dX9_put_11 (by decide) ?_
  refine lv_icmp_ge (tgt := 46) hx hb dX9_put_14 (by decide) (fun zc => absurd zc (by decide)) (fun _ => ?_)
  refine lv_aload_n hx hb dX9_put_17 rfl (lv_at hl 1 rfl) ?_
  refine va_get (D := (dC, dI)) (ci := 9) (v := .ref qB) (C := RX9) (T := TX9) (N := 2) hx hb hts in_c_put16_9 hown hK hP 0 rfl rfl 0 (by decide) (hts (.fieldLink RX9 11 "LanternHouse$Tape" "bytes" "[B") (by decide +kernel)) (fun _ h9 => h9) (zset_ne (by decide) haT_0) dX9_put_18 ?_
  refine lv_aload_n hx hb dX9_put_21 rfl (lv_at hl 1 rfl) ?_
  refine va_get (D := (dC, dI)) (ci := 9) (v := .int 17) (C := RX9) (T := TX9) (N := 2) hx hb hts in_c_put16_9 hown hK hP 0 rfl rfl 1 (by decide) (hts (.fieldLink RX9 15 "LanternHouse$Tape" "length" "I") (by decide +kernel)) (fun _ h9 => h9) (zset_eq (by rw [hlaT]; decide)) dX9_put_22 ?_
  refine lv_iload_n hx hb dX9_put_25 rfl (lv_at hl 2 rfl) ?_
  refine lv_iload_n hx hb dX9_put_26 rfl (lv_at hl 0 rfl) ?_
  refine lv_ishr hx hb dX9_put_27 ?_
  refine lv_topi (fun x5 ex5 => ?_)
  refine lv_i2b hx hb dX9_put_28 rfl ?_
  refine lv_topi (fun x6 ex6 => ?_)
  refine z_bast hx hb hK hP hD hS 1 0 rfl rfl (show ¬ ((17 : Int32) < 0 ∨ 3000 ≤ (17 : Int32).toNatClampNeg) from by decide) dX9_put_29 (fun H locs g7 hg7 hP hD hS => ?_)
  have hP : va_P (dC, dI) vwCl [(aT, .inr (9, (List.set fsaT 1 (.int 17)))), (qB, .inl (cB, 3000, .inl g7))] H := hP
  have hD : va_D A [(aT, .inr (9, (List.set fsaT 1 (.int 17)))), (qB, .inl (cB, 3000, .inl g7))] := hD
  refine lv_aload_n hx hb dX9_put_30 rfl (lv_at hl 1 rfl) ?_
  refine lv_dup hx hb dX9_put_31 rfl ?_
  refine va_get (D := (dC, dI)) (ci := 9) (v := .int 17) (C := RX9) (T := TX9) (N := 2) hx hb hts in_c_put16_9 hown hK hP 0 rfl rfl 1 (by decide) (hts (.fieldLink RX9 15 "LanternHouse$Tape" "length" "I") (by decide +kernel)) (fun _ h9 => h9) (zset_eq (by rw [hlaT]; decide)) dX9_put_32 ?_
  refine lv_iconst (v := 1) hx hb dX9_put_35 (by decide) ?_
  refine lv_iadd hx hb dX9_put_36 ?_
  refine lv_topi (fun x8 ex8 => ?_)
  obtain rfl : x8 = 18 := ex8.trans (by decide)
  refine va_put (D := (dC, dI)) (ci := 9) (v := .int 18) (ty := .int) (C := RX9) (T := TX9) (N := 2) hx hb hts in_c_put16_9 tyX9 tyX9_ok nmX9 hown hK hP hD hS 0 rfl rfl 1 (by decide) (hts (.fieldLink RX9 15 "LanternHouse$Tape" "length" "I") (by decide +kernel)) (fun _ h9 => h9) rfl (by decide +kernel) rfl rfl (by rw [(zset_len hlaT)]; decide) dX9_put_37 (fun H locs hP hD hS => ?_)
  have hP : va_P (dC, dI) vwCl [(aT, .inr (9, (List.set (List.set fsaT 1 (.int 17)) 1 (.int 18)))), (qB, .inl (cB, 3000, .inl g7))] H := hP
  have hD : va_D A [(aT, .inr (9, (List.set (List.set fsaT 1 (.int 17)) 1 (.int 18)))), (qB, .inl (cB, 3000, .inl g7))] := hD
  refine lv_iinc (v := 8) (lv' := [(2, .int 8), (0, .ref aT), (1, .int iW)]) hx hb dX9_put_40 hl (k := 0) rfl (by decide) (by decide) rfl (fun ls hl => ?_)
  refine lv_goto (tgt := 3) hx hb dX9_put_43 (by decide) ?_
  refine lv_iload_n hx hb dX9_put_3 rfl (lv_at hl 0 rfl) ?_
  refine lv_if_lt (tgt := 46) hx hb dX9_put_4 (by decide) (fun zc => absurd zc (by decide)) (fun _ => ?_)
  refine lv_aload_n hx hb dX9_put_7 rfl (lv_at hl 1 rfl) ?_
  refine va_get (D := (dC, dI)) (ci := 9) (v := .int 18) (C := RX9) (T := TX9) (N := 2) hx hb hts in_c_put16_9 hown hK hP 0 rfl rfl 1 (by decide) (hts (.fieldLink RX9 15 "LanternHouse$Tape" "length" "I") (by decide +kernel)) (fun _ h9 => h9) (zset_eq (by rw [(zset_len hlaT)]; decide)) dX9_put_8 ?_
  refine lv_sipush (v := 3000) hx hb dX9_put_11 (by decide) ?_
  refine lv_icmp_ge (tgt := 46) hx hb dX9_put_14 (by decide) (fun zc => absurd zc (by decide)) (fun _ => ?_)
  refine lv_aload_n hx hb dX9_put_17 rfl (lv_at hl 1 rfl) ?_
  refine va_get (D := (dC, dI)) (ci := 9) (v := .ref qB) (C := RX9) (T := TX9) (N := 2) hx hb hts in_c_put16_9 hown hK hP 0 rfl rfl 0 (by decide) (hts (.fieldLink RX9 11 "LanternHouse$Tape" "bytes" "[B") (by decide +kernel)) (fun _ h9 => h9) (zset_ne (by decide) (zset_ne (by decide) haT_0)) dX9_put_18 ?_
  refine lv_aload_n hx hb dX9_put_21 rfl (lv_at hl 1 rfl) ?_
  refine va_get (D := (dC, dI)) (ci := 9) (v := .int 18) (C := RX9) (T := TX9) (N := 2) hx hb hts in_c_put16_9 hown hK hP 0 rfl rfl 1 (by decide) (hts (.fieldLink RX9 15 "LanternHouse$Tape" "length" "I") (by decide +kernel)) (fun _ h9 => h9) (zset_eq (by rw [(zset_len hlaT)]; decide)) dX9_put_22 ?_
  refine lv_iload_n hx hb dX9_put_25 rfl (lv_at hl 2 rfl) ?_
  refine lv_iload_n hx hb dX9_put_26 rfl (lv_at hl 0 rfl) ?_
  refine lv_ishr hx hb dX9_put_27 ?_
  refine lv_topi (fun x9 ex9 => ?_)
  refine lv_i2b hx hb dX9_put_28 rfl ?_
  refine lv_topi (fun x10 ex10 => ?_)
  refine z_bast hx hb hK hP hD hS 1 0 rfl rfl (show ¬ ((18 : Int32) < 0 ∨ 3000 ≤ (18 : Int32).toNatClampNeg) from by decide) dX9_put_29 (fun H locs g11 hg11 hP hD hS => ?_)
  have hP : va_P (dC, dI) vwCl [(aT, .inr (9, (List.set (List.set fsaT 1 (.int 17)) 1 (.int 18)))), (qB, .inl (cB, 3000, .inl g11))] H := hP
  have hD : va_D A [(aT, .inr (9, (List.set (List.set fsaT 1 (.int 17)) 1 (.int 18)))), (qB, .inl (cB, 3000, .inl g11))] := hD
  refine lv_aload_n hx hb dX9_put_30 rfl (lv_at hl 1 rfl) ?_
  refine lv_dup hx hb dX9_put_31 rfl ?_
  refine va_get (D := (dC, dI)) (ci := 9) (v := .int 18) (C := RX9) (T := TX9) (N := 2) hx hb hts in_c_put16_9 hown hK hP 0 rfl rfl 1 (by decide) (hts (.fieldLink RX9 15 "LanternHouse$Tape" "length" "I") (by decide +kernel)) (fun _ h9 => h9) (zset_eq (by rw [(zset_len hlaT)]; decide)) dX9_put_32 ?_
  refine lv_iconst (v := 1) hx hb dX9_put_35 (by decide) ?_
  refine lv_iadd hx hb dX9_put_36 ?_
  refine lv_topi (fun x12 ex12 => ?_)
  obtain rfl : x12 = 19 := ex12.trans (by decide)
  refine va_put (D := (dC, dI)) (ci := 9) (v := .int 19) (ty := .int) (C := RX9) (T := TX9) (N := 2) hx hb hts in_c_put16_9 tyX9 tyX9_ok nmX9 hown hK hP hD hS 0 rfl rfl 1 (by decide) (hts (.fieldLink RX9 15 "LanternHouse$Tape" "length" "I") (by decide +kernel)) (fun _ h9 => h9) rfl (by decide +kernel) rfl rfl (by rw [(zset_len (zset_len hlaT))]; decide) dX9_put_37 (fun H locs hP hD hS => ?_)
  have hP : va_P (dC, dI) vwCl [(aT, .inr (9, (List.set (List.set (List.set fsaT 1 (.int 17)) 1 (.int 18)) 1 (.int 19)))), (qB, .inl (cB, 3000, .inl g11))] H := hP
  have hD : va_D A [(aT, .inr (9, (List.set (List.set (List.set fsaT 1 (.int 17)) 1 (.int 18)) 1 (.int 19)))), (qB, .inl (cB, 3000, .inl g11))] := hD
  refine lv_iinc (v := 0) (lv' := [(2, .int 0), (0, .ref aT), (1, .int iW)]) hx hb dX9_put_40 hl (k := 0) rfl (by decide) (by decide) rfl (fun ls hl => ?_)
  refine lv_goto (tgt := 3) hx hb dX9_put_43 (by decide) ?_
  refine lv_iload_n hx hb dX9_put_3 rfl (lv_at hl 0 rfl) ?_
  refine lv_if_lt (tgt := 46) hx hb dX9_put_4 (by decide) (fun zc => absurd zc (by decide)) (fun _ => ?_)
  refine lv_aload_n hx hb dX9_put_7 rfl (lv_at hl 1 rfl) ?_
  refine va_get (D := (dC, dI)) (ci := 9) (v := .int 19) (C := RX9) (T := TX9) (N := 2) hx hb hts in_c_put16_9 hown hK hP 0 rfl rfl 1 (by decide) (hts (.fieldLink RX9 15 "LanternHouse$Tape" "length" "I") (by decide +kernel)) (fun _ h9 => h9) (zset_eq (by rw [(zset_len (zset_len hlaT))]; decide)) dX9_put_8 ?_
  refine lv_sipush (v := 3000) hx hb dX9_put_11 (by decide) ?_
  refine lv_icmp_ge (tgt := 46) hx hb dX9_put_14 (by decide) (fun zc => absurd zc (by decide)) (fun _ => ?_)
  refine lv_aload_n hx hb dX9_put_17 rfl (lv_at hl 1 rfl) ?_
  refine va_get (D := (dC, dI)) (ci := 9) (v := .ref qB) (C := RX9) (T := TX9) (N := 2) hx hb hts in_c_put16_9 hown hK hP 0 rfl rfl 0 (by decide) (hts (.fieldLink RX9 11 "LanternHouse$Tape" "bytes" "[B") (by decide +kernel)) (fun _ h9 => h9) (zset_ne (by decide) (zset_ne (by decide) (zset_ne (by decide) haT_0))) dX9_put_18 ?_
  refine lv_aload_n hx hb dX9_put_21 rfl (lv_at hl 1 rfl) ?_
  refine va_get (D := (dC, dI)) (ci := 9) (v := .int 19) (C := RX9) (T := TX9) (N := 2) hx hb hts in_c_put16_9 hown hK hP 0 rfl rfl 1 (by decide) (hts (.fieldLink RX9 15 "LanternHouse$Tape" "length" "I") (by decide +kernel)) (fun _ h9 => h9) (zset_eq (by rw [(zset_len (zset_len hlaT))]; decide)) dX9_put_22 ?_
  refine lv_iload_n hx hb dX9_put_25 rfl (lv_at hl 2 rfl) ?_
  refine lv_iload_n hx hb dX9_put_26 rfl (lv_at hl 0 rfl) ?_
  refine lv_ishr hx hb dX9_put_27 ?_
  refine lv_topi (fun x13 ex13 => ?_)
  refine lv_i2b hx hb dX9_put_28 rfl ?_
  refine lv_topi (fun x14 ex14 => ?_)
  refine z_bast hx hb hK hP hD hS 1 0 rfl rfl (show ¬ ((19 : Int32) < 0 ∨ 3000 ≤ (19 : Int32).toNatClampNeg) from by decide) dX9_put_29 (fun H locs g15 hg15 hP hD hS => ?_)
  have hP : va_P (dC, dI) vwCl [(aT, .inr (9, (List.set (List.set (List.set fsaT 1 (.int 17)) 1 (.int 18)) 1 (.int 19)))), (qB, .inl (cB, 3000, .inl g15))] H := hP
  have hD : va_D A [(aT, .inr (9, (List.set (List.set (List.set fsaT 1 (.int 17)) 1 (.int 18)) 1 (.int 19)))), (qB, .inl (cB, 3000, .inl g15))] := hD
  refine lv_aload_n hx hb dX9_put_30 rfl (lv_at hl 1 rfl) ?_
  refine lv_dup hx hb dX9_put_31 rfl ?_
  refine va_get (D := (dC, dI)) (ci := 9) (v := .int 19) (C := RX9) (T := TX9) (N := 2) hx hb hts in_c_put16_9 hown hK hP 0 rfl rfl 1 (by decide) (hts (.fieldLink RX9 15 "LanternHouse$Tape" "length" "I") (by decide +kernel)) (fun _ h9 => h9) (zset_eq (by rw [(zset_len (zset_len hlaT))]; decide)) dX9_put_32 ?_
  refine lv_iconst (v := 1) hx hb dX9_put_35 (by decide) ?_
  refine lv_iadd hx hb dX9_put_36 ?_
  refine lv_topi (fun x16 ex16 => ?_)
  obtain rfl : x16 = 20 := ex16.trans (by decide)
  refine va_put (D := (dC, dI)) (ci := 9) (v := .int 20) (ty := .int) (C := RX9) (T := TX9) (N := 2) hx hb hts in_c_put16_9 tyX9 tyX9_ok nmX9 hown hK hP hD hS 0 rfl rfl 1 (by decide) (hts (.fieldLink RX9 15 "LanternHouse$Tape" "length" "I") (by decide +kernel)) (fun _ h9 => h9) rfl (by decide +kernel) rfl rfl (by rw [(zset_len (zset_len (zset_len hlaT)))]; decide) dX9_put_37 (fun H locs hP hD hS => ?_)
  have hP : va_P (dC, dI) vwCl [(aT, .inr (9, (List.set (List.set (List.set (List.set fsaT 1 (.int 17)) 1 (.int 18)) 1 (.int 19)) 1 (.int 20)))), (qB, .inl (cB, 3000, .inl g15))] H := hP
  have hD : va_D A [(aT, .inr (9, (List.set (List.set (List.set (List.set fsaT 1 (.int 17)) 1 (.int 18)) 1 (.int 19)) 1 (.int 20)))), (qB, .inl (cB, 3000, .inl g15))] := hD
  refine lv_iinc (v := (-8)) (lv' := [(2, .int (-8)), (0, .ref aT), (1, .int iW)]) hx hb dX9_put_40 hl (k := 0) rfl (by decide) (by decide) rfl (fun ls hl => ?_)
  refine lv_goto (tgt := 3) hx hb dX9_put_43 (by decide) ?_
  refine lv_iload_n hx hb dX9_put_3 rfl (lv_at hl 0 rfl) ?_
  refine lv_if_lt (tgt := 46) hx hb dX9_put_4 (by decide) (fun _ => ?_) (fun zc => absurd zc (by decide))
  have hP9 : va_P (dC, dI) vwCl [(aT, .inr (9, (List.set (List.set (List.set (List.set fsaT 1 (.int 17)) 1 (.int 18)) 1 (.int 19)) 1 (.int 20)))), (qB, .inl (cB, 3000, .inl g15))] H := hP.sub [0, 1] rfl
  have hD9 : va_D A [(aT, .inr (9, (List.set (List.set (List.set (List.set fsaT 1 (.int 17)) 1 (.int 18)) 1 (.int 19)) 1 (.int 20)))), (qB, .inl (cB, 3000, .inl g15))] := hD.sub [0, 1] (by decide) rfl
  exact W.vret hx hb hr (fun t ht hW => ⟨⟨(), rfl, trivial, ⟨g15, (List.set (List.set (List.set (List.set fsaT 1 (.int 17)) 1 (.int 18)) 1 (.int 19)) 1 (.int 20)), (zset_len (zset_len (zset_len (zset_len hlaT)))), (fun j hj => ((zfr (by decide) hj).trans ((zfr (by decide) hj).trans ((zfr (by decide) hj).trans ((zfr (by decide) hj).trans rfl))))), (zset_eq (by rw [(zset_len (zset_len (zset_len hlaT)))]; decide)), by rw [ht]; exact hP9, hD9⟩⟩, hS.F ht⟩) hS.2.2 dX9_put_46

def zs_c_at : List Cond := .code yX9_at cX9_at 2 (some .int) :: (([.fieldLink RX9 15 "LanternHouse$Tape" "length" "I"] : List Cond) ++ (wsX90 ++ []))
theorem gd_c_at : (zs_c_at).all goodWord = true := by decide +kernel
theorem in_c_at_9 : ∀ w ∈ wsX90, w ∈ zs_c_at := fun w h => List.mem_cons_of_mem _ (List.mem_append_right _ (List.mem_append_left _ h))
abbrev ws_c_at (cB cI cJ cZ cQ : ClassId) (aT : Nat) (fsaT : List Value) : va_W := [(aT, .inr (9, fsaT))]
set_option maxHeartbeats 4000000 in
set_option maxRecDepth 100000 in
theorem c_at (l : Launch) (dC : Nat → ClassId) (dI : Nat → Nat → Nat) (cB cI cJ cZ cQ : ClassId) (aT : Nat) (fsaT : List Value) (sz : Nat) (hlaT : fsaT.length = 2) (haT_1 : fsaT[1]? = some (.int 0)) : Met l yX9_at zs_c_at ({ frames := 0, cells := 0, slots := 0, locals := 0 } : Room) (zPc [.ref aT, .int 0] (dC, dI) (zTY cB cI cJ cZ cQ) (ws_c_at cB cI cJ cZ cQ aT fsaT) sz) (va_Qi (fun (zr : Int32) (_ : Unit) => zr = (-1)) (fun (_ : Unit) (t : State) => ∃ (gsaT : List Value), gsaT.length = 2 ∧ (∀ j : Nat, ¬ j ∈ ([] : List Nat) → gsaT[j]? = fsaT[j]?) ∧ va_P (dC, dI) vwCl [(aT, .inr (9, gsaT))] t.heap ∧ va_D (va_A (ws_c_at cB cI cJ cZ cQ aT fsaT) sz) [(aT, .inr (9, gsaT))]) (va_A (ws_c_at cB cI cJ cZ cQ aT fsaT) sz)) 0 0 (va_A (ws_c_at cB cI cJ cZ cQ aT fsaT) sz) := by
  refine Met.ofW (cc := cX9_at) (maxL := 2) (ret := (some .int)) (by decide) rfl ?_
  intro p e s m args below meth c s₁ B hml hv
  obtain ⟨rfl, hsz, hP0, hK, hO, hD0⟩ := hv
  have hx := B.exec
  have hb := B.bytes
  have hr := B.returns
  have hts := atoms_spec (ws := zs_c_at) B.pre
  have hown : s.vm.findClass RX9 = some m.cls := findClass_of_methodNamed B.named
  have hlocks := B.notSynchronized
  subst hsz
  have hD8 := hD0.self (sz := s.heap.size)
  generalize hAe : va_A (ws_c_at cB cI cJ cZ cQ aT fsaT) s.heap.size = A at hD8 ⊢
  have hA : ∀ q : Nat, s.heap.size ≤ q → A q := fun q h => by rw [← hAe]; exact Or.inr h
  have hS : va_S A s.heap s.heap [] := va_S.rf
  have hP : va_P (dC, dI) vwCl [(aT, .inr (9, fsaT))] s.heap := hP0
  have hD : va_D A [(aT, .inr (9, fsaT))] := hD8
  have hl := lv_entry ([.ref aT, .int 0]) (n := 2) (Nat.le_of_ble_eq_true rfl)
  rw [lg_entry_eq]
  generalize (lg_sl ([.ref aT, .int 0]) ++ List.replicate (2 - (lg_sl ([.ref aT, .int 0])).length) Slot.unset).toArray = ls at hl ⊢
  have hl : lv_has ls 2 [(0, .ref aT), (1, .int 0)] := hl
  clear hP0 hD8 hD0
  refine zH0 (fun H hP hS => ?_) hP hS
  refine lv_iload_n hx hb dX9_at_0 rfl (lv_at hl 1 rfl) ?_
  refine lv_if_lt (tgt := 25) hx hb dX9_at_1 (by decide) (fun zc => absurd zc (by decide)) (fun _ => ?_)
  refine lv_iload_n hx hb dX9_at_4 rfl (lv_at hl 1 rfl) ?_
  refine lv_aload_n hx hb dX9_at_5 rfl (lv_at hl 0 rfl) ?_
  refine va_get (D := (dC, dI)) (ci := 9) (v := .int 0) (C := RX9) (T := TX9) (N := 2) hx hb hts in_c_at_9 hown hK hP 0 rfl rfl 1 (by decide) (hts (.fieldLink RX9 15 "LanternHouse$Tape" "length" "I") (by decide +kernel)) (fun _ h9 => h9) haT_1 dX9_at_6 ?_
  refine lv_icmp_ge (tgt := 25) hx hb dX9_at_9 (by decide) (fun _ => ?_) (fun zc => absurd zc (by decide))
  refine lv_iconst (v := (-1)) hx hb dX9_at_25 (by decide) ?_
  have hP9 : va_P (dC, dI) vwCl [(aT, .inr (9, fsaT))] H := hP.sub [0] rfl
  have hD9 : va_D A [(aT, .inr (9, fsaT))] := hD.sub [0] (by decide) rfl
  exact W.iret (v := (-1)) hx hb hr (fun t ht hW => ⟨⟨(-1), (), rfl, rfl, ⟨fsaT, hlaT, (fun j hj => rfl), by rw [ht]; exact hP9, hD9⟩⟩, hS.F ht⟩) hS.2.2 dX9_at_26

