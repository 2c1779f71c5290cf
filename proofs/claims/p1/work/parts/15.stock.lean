def zs_c_sadd : List Cond := .code yX8_add cX8_add 2 (some .int) :: (([.fieldLink RX8 18 "LanternHouse$Stock" "size" "I", .fieldLink RX8 11 "LanternHouse$Stock" "kinds" "[I", .fieldLink RX8 15 "LanternHouse$Stock" "platesOfKind" "[I"] : List Cond) ++ (wsX80 ++ []))
theorem gd_c_sadd : (zs_c_sadd).all goodWord = true := by decide +kernel
theorem in_c_sadd_8 : ∀ w ∈ wsX80, w ∈ zs_c_sadd := fun w h => List.mem_cons_of_mem _ (List.mem_append_right _ (List.mem_append_left _ h))
abbrev ws_c_sadd (cB cI cJ cZ cQ : ClassId) (aS qK qPk : Nat) (iK : Int32) (fK : Nat → Int32) (fPk : Nat → Int32) (fsaS : List Value) : va_W := [(aS, .inr (8, fsaS)), (qK, .inl (cI, 20, .inl fK)), (qPk, .inl (cI, 30, .inl fPk))]
set_option maxHeartbeats 4000000 in
set_option maxRecDepth 100000 in
theorem c_sadd (l : Launch) (dC : Nat → ClassId) (dI : Nat → Nat → Nat) (cB cI cJ cZ cQ : ClassId) (aS qK qPk : Nat) (iK : Int32) (fK : Nat → Int32) (fPk : Nat → Int32) (fsaS : List Value) (sz : Nat) (hlaS : fsaS.length = 3) (haS_0 : fsaS[0]? = some (.ref qK)) (haS_1 : fsaS[1]? = some (.ref qPk)) (haS_2 : fsaS[2]? = some (.int 0)) : Met l yX8_add zs_c_sadd ({ frames := 0, cells := 0, slots := 0, locals := 0 } : Room) (zPc [.ref aS, .int iK] (dC, dI) (zTY cB cI cJ cZ cQ) (ws_c_sadd cB cI cJ cZ cQ aS qK qPk iK fK fPk fsaS) sz) (va_Qi (fun (zr : Int32) (_ : Unit) => zr = sp_plate iK) (fun (_ : Unit) (_ : State) => True) (va_A (ws_c_sadd cB cI cJ cZ cQ aS qK qPk iK fK fPk fsaS) sz)) 0 0 (va_A (ws_c_sadd cB cI cJ cZ cQ aS qK qPk iK fK fPk fsaS) sz) := by
  refine Met.ofW (cc := cX8_add) (maxL := 2) (ret := (some .int)) (by decide) rfl ?_
  intro p e s m args below meth c s₁ B hml hv
  obtain ⟨rfl, hsz, hP0, hK, hO, hD0⟩ := hv
  have hx := B.exec
  have hb := B.bytes
  have hr := B.returns
  have hts := atoms_spec (ws := zs_c_sadd) B.pre
  have hown : s.vm.findClass RX8 = some m.cls := findClass_of_methodNamed B.named
  have hlocks := B.notSynchronized
  subst hsz
  have hD8 := hD0.self (sz := s.heap.size)
  generalize hAe : va_A (ws_c_sadd cB cI cJ cZ cQ aS qK qPk iK fK fPk fsaS) s.heap.size = A at hD8 ⊢
  have hA : ∀ q : Nat, s.heap.size ≤ q → A q := fun q h => by rw [← hAe]; exact Or.inr h
  have hS : va_S A s.heap s.heap [] := va_S.rf
  have hP : va_P (dC, dI) vwCl [(aS, .inr (8, fsaS)), (qK, .inl (cI, 20, .inl fK)), (qPk, .inl (cI, 30, .inl fPk))] s.heap := hP0
  have hD : va_D A [(aS, .inr (8, fsaS)), (qK, .inl (cI, 20, .inl fK)), (qPk, .inl (cI, 30, .inl fPk))] := hD8
  have hl := lv_entry ([.ref aS, .int iK]) (n := 2) (Nat.le_of_ble_eq_true rfl)
  rw [lg_entry_eq]
  generalize (lg_sl ([.ref aS, .int iK]) ++ List.replicate (2 - (lg_sl ([.ref aS, .int iK])).length) Slot.unset).toArray = ls at hl ⊢
  have hl : lv_has ls 2 [(0, .ref aS), (1, .int iK)] := hl
  clear hP0 hD8 hD0
  refine zH0 (fun H hP hS => ?_) hP hS
  refine lv_aload_n hx hb dX8_add_0 rfl (lv_at hl 0 rfl) ?_
  refine va_get (D := (dC, dI)) (ci := 8) (v := .int 0) (C := RX8) (T := TX8) (N := 3) hx hb hts in_c_sadd_8 hown hK hP 0 rfl rfl 2 (by decide) (hts (.fieldLink RX8 18 "LanternHouse$Stock" "size" "I") (by decide +kernel)) (fun _ h9 => h9) haS_2 dX8_add_1 ?_
  refine lv_bipush (v := 20) hx hb dX8_add_4 (by decide) ?_
  refine lv_icmp_ge (tgt := 19) hx hb dX8_add_6 (by decide) (fun zc => absurd zc (by decide)) (fun _ => ?_)
  refine lv_iload_n hx hb dX8_add_9 rfl (lv_at hl 1 rfl) ?_
  refine lv_if_lt (tgt := 19) hx hb dX8_add_10 (by decide) (fun c1 => ?_) (fun c1 => ?_)
  · skip
    refine lv_iconst (v := (-1)) hx hb dX8_add_19 (by decide) ?_
    exact W.iret (v := (-1)) hx hb hr (fun t ht hW => ⟨⟨(-1), (), rfl, (by first | rfl | decide | (unfold sp_plate; split <;> rename_i zh <;> first | rfl | (exfalso; simp only [Int32.lt_iff_toInt_lt, Int32.le_iff_toInt_le, ← Int32.toInt_inj, zi_m1, zi_0, zi_1, zi_6, zi_8, zi_M, zi_16, zi_20, zi_23, zi_24, zi_27, zi_29, zi_30, zi_40, zi_500, zi_700, zi_1000, true_and, and_true] at zh c1 <;> omega))), trivial⟩, hS.F ht⟩) hS.2.2 dX8_add_20
  · skip
    refine lv_iload_n hx hb dX8_add_13 rfl (lv_at hl 1 rfl) ?_
    refine lv_bipush (v := 29) hx hb dX8_add_14 (by decide) ?_
    refine lv_icmp_le (tgt := 21) hx hb dX8_add_16 (by decide) (fun c2 => ?_) (fun c2 => ?_)
    · skip
      refine lv_aload_n hx hb dX8_add_21 rfl (lv_at hl 0 rfl) ?_
      refine va_get (D := (dC, dI)) (ci := 8) (v := .ref qK) (C := RX8) (T := TX8) (N := 3) hx hb hts in_c_sadd_8 hown hK hP 0 rfl rfl 0 (by decide) (hts (.fieldLink RX8 11 "LanternHouse$Stock" "kinds" "[I") (by decide +kernel)) (fun _ h9 => h9) haS_0 dX8_add_22 ?_
      refine lv_aload_n hx hb dX8_add_25 rfl (lv_at hl 0 rfl) ?_
      refine va_get (D := (dC, dI)) (ci := 8) (v := .int 0) (C := RX8) (T := TX8) (N := 3) hx hb hts in_c_sadd_8 hown hK hP 0 rfl rfl 2 (by decide) (hts (.fieldLink RX8 18 "LanternHouse$Stock" "size" "I") (by decide +kernel)) (fun _ h9 => h9) haS_2 dX8_add_26 ?_
      refine lv_iload_n hx hb dX8_add_29 rfl (lv_at hl 1 rfl) ?_
      refine z_iast hx hb hK hP hD hS 1 1 rfl rfl (show ¬ ((0 : Int32) < 0 ∨ 20 ≤ (0 : Int32).toNatClampNeg) from by decide) dX8_add_30 (fun H locs g3 hg3 hP hD hS => ?_)
      have hP : va_P (dC, dI) vwCl [(aS, .inr (8, fsaS)), (qK, .inl (cI, 20, .inl g3)), (qPk, .inl (cI, 30, .inl fPk))] H := hP
      have hD : va_D A [(aS, .inr (8, fsaS)), (qK, .inl (cI, 20, .inl g3)), (qPk, .inl (cI, 30, .inl fPk))] := hD
      refine lv_aload_n hx hb dX8_add_31 rfl (lv_at hl 0 rfl) ?_
      refine va_get (D := (dC, dI)) (ci := 8) (v := .ref qPk) (C := RX8) (T := TX8) (N := 3) hx hb hts in_c_sadd_8 hown hK hP 0 rfl rfl 1 (by decide) (hts (.fieldLink RX8 15 "LanternHouse$Stock" "platesOfKind" "[I") (by decide +kernel)) (fun _ h9 => h9) haS_1 dX8_add_32 ?_
      refine lv_iload_n hx hb dX8_add_35 rfl (lv_at hl 1 rfl) ?_
      refine lv_dup2_11 hx hb dX8_add_36 rfl rfl ?_
      refine z_iald hx hb hK hP 2 1 rfl rfl (vp_in_iff.mpr (by simp only [Int32.lt_iff_toInt_lt, Int32.le_iff_toInt_le, ← Int32.toInt_inj, zi_m1, zi_0, zi_1, zi_6, zi_8, zi_M, zi_16, zi_20, zi_23, zi_24, zi_27, zi_29, zi_30, zi_40, zi_500, zi_700, zi_1000] at c1 c2 ⊢<;> omega)) rfl dX8_add_37 ?_
      refine lv_topi (fun x4 ex4 => ?_)
      refine lv_iconst (v := 1) hx hb dX8_add_38 (by decide) ?_
      refine lv_aload_n hx hb dX8_add_39 rfl (lv_at hl 0 rfl) ?_
      refine va_get (D := (dC, dI)) (ci := 8) (v := .int 0) (C := RX8) (T := TX8) (N := 3) hx hb hts in_c_sadd_8 hown hK hP 0 rfl rfl 2 (by decide) (hts (.fieldLink RX8 18 "LanternHouse$Stock" "size" "I") (by decide +kernel)) (fun _ h9 => h9) haS_2 dX8_add_40 ?_
      refine lv_ishl hx hb dX8_add_43 ?_
      refine lv_topi (fun x5 ex5 => ?_)
      obtain rfl : x5 = 1 := ex5.trans (by decide)
      refine lv_ior hx hb dX8_add_44 ?_
      refine lv_topi (fun x6 ex6 => ?_)
      refine z_iast hx hb hK hP hD hS 2 1 rfl rfl (vp_in_iff.mpr (by simp only [Int32.lt_iff_toInt_lt, Int32.le_iff_toInt_le, ← Int32.toInt_inj, zi_m1, zi_0, zi_1, zi_6, zi_8, zi_M, zi_16, zi_20, zi_23, zi_24, zi_27, zi_29, zi_30, zi_40, zi_500, zi_700, zi_1000] at c1 c2 ⊢<;> omega)) dX8_add_45 (fun H locs g7 hg7 hP hD hS => ?_)
      have hP : va_P (dC, dI) vwCl [(aS, .inr (8, fsaS)), (qK, .inl (cI, 20, .inl g3)), (qPk, .inl (cI, 30, .inl g7))] H := hP
      have hD : va_D A [(aS, .inr (8, fsaS)), (qK, .inl (cI, 20, .inl g3)), (qPk, .inl (cI, 30, .inl g7))] := hD
      refine lv_aload_n hx hb dX8_add_46 rfl (lv_at hl 0 rfl) ?_
      refine lv_dup hx hb dX8_add_47 rfl ?_
      refine va_get (D := (dC, dI)) (ci := 8) (v := .int 0) (C := RX8) (T := TX8) (N := 3) hx hb hts in_c_sadd_8 hown hK hP 0 rfl rfl 2 (by decide) (hts (.fieldLink RX8 18 "LanternHouse$Stock" "size" "I") (by decide +kernel)) (fun _ h9 => h9) haS_2 dX8_add_48 ?_
      refine lv_iconst (v := 1) hx hb dX8_add_51 (by decide) ?_
      refine lv_iadd hx hb dX8_add_52 ?_
      refine lv_topi (fun x8 ex8 => ?_)
      obtain rfl : x8 = 1 := ex8.trans (by decide)
      refine va_put (D := (dC, dI)) (ci := 8) (v := .int 1) (ty := .int) (C := RX8) (T := TX8) (N := 3) hx hb hts in_c_sadd_8 tyX8 tyX8_ok nmX8 hown hK hP hD hS 0 rfl rfl 2 (by decide) (hts (.fieldLink RX8 18 "LanternHouse$Stock" "size" "I") (by decide +kernel)) (fun _ h9 => h9) rfl (by decide +kernel) rfl rfl (by rw [hlaS]; decide) dX8_add_53 (fun H locs hP hD hS => ?_)
      have hP : va_P (dC, dI) vwCl [(aS, .inr (8, (List.set fsaS 2 (.int 1)))), (qK, .inl (cI, 20, .inl g3)), (qPk, .inl (cI, 30, .inl g7))] H := hP
      have hD : va_D A [(aS, .inr (8, (List.set fsaS 2 (.int 1)))), (qK, .inl (cI, 20, .inl g3)), (qPk, .inl (cI, 30, .inl g7))] := hD
      refine lv_aload_n hx hb dX8_add_56 rfl (lv_at hl 0 rfl) ?_
      refine va_get (D := (dC, dI)) (ci := 8) (v := .int 1) (C := RX8) (T := TX8) (N := 3) hx hb hts in_c_sadd_8 hown hK hP 0 rfl rfl 2 (by decide) (hts (.fieldLink RX8 18 "LanternHouse$Stock" "size" "I") (by decide +kernel)) (fun _ h9 => h9) (zset_eq (by rw [hlaS]; decide)) dX8_add_57 ?_
      refine lv_iconst (v := 1) hx hb dX8_add_60 (by decide) ?_
      refine lv_isub hx hb dX8_add_61 ?_
      refine lv_topi (fun x9 ex9 => ?_)
      obtain rfl : x9 = 0 := ex9.trans (by decide)
      exact W.iret (v := 0) hx hb hr (fun t ht hW => ⟨⟨0, (), rfl, (by first | rfl | decide | (unfold sp_plate; split <;> rename_i zh <;> first | rfl | (exfalso; simp only [Int32.lt_iff_toInt_lt, Int32.le_iff_toInt_le, ← Int32.toInt_inj, zi_m1, zi_0, zi_1, zi_6, zi_8, zi_M, zi_16, zi_20, zi_23, zi_24, zi_27, zi_29, zi_30, zi_40, zi_500, zi_700, zi_1000, true_and, and_true] at zh c1 c2 <;> omega))), trivial⟩, hS.F ht⟩) hS.2.2 dX8_add_62
    · skip
      refine lv_iconst (v := (-1)) hx hb dX8_add_19 (by decide) ?_
      exact W.iret (v := (-1)) hx hb hr (fun t ht hW => ⟨⟨(-1), (), rfl, (by first | rfl | decide | (unfold sp_plate; split <;> rename_i zh <;> first | rfl | (exfalso; simp only [Int32.lt_iff_toInt_lt, Int32.le_iff_toInt_le, ← Int32.toInt_inj, zi_m1, zi_0, zi_1, zi_6, zi_8, zi_M, zi_16, zi_20, zi_23, zi_24, zi_27, zi_29, zi_30, zi_40, zi_500, zi_700, zi_1000, true_and, and_true] at zh c1 c2 <;> omega))), trivial⟩, hS.F ht⟩) hS.2.2 dX8_add_20

def zs_c_isKnown : List Cond := .code yX0_isKnown cX0_isKnown 2 (some .boolean) :: (([.fieldLink RX0 26 "LanternHouse$Facts" "size" "I"] : List Cond) ++ (wsX00 ++ []))
theorem gd_c_isKnown : (zs_c_isKnown).all goodWord = true := by decide +kernel
theorem in_c_isKnown_0 : ∀ w ∈ wsX00, w ∈ zs_c_isKnown := fun w h => List.mem_cons_of_mem _ (List.mem_append_right _ (List.mem_append_left _ h))
abbrev ws_c_isKnown (cB cI cJ cZ cQ : ClassId) (aF : Nat) (iN : Int32) (fsaF : List Value) : va_W := [(aF, .inr (0, fsaF))]
set_option maxHeartbeats 4000000 in
set_option maxRecDepth 100000 in
theorem c_isKnown (l : Launch) (dC : Nat → ClassId) (dI : Nat → Nat → Nat) (cB cI cJ cZ cQ : ClassId) (aF : Nat) (iN : Int32) (fsaF : List Value) (sz : Nat) (hlaF : fsaF.length = 5) (haF_4 : fsaF[4]? = some (.int 0)) : Met l yX0_isKnown zs_c_isKnown ({ frames := 0, cells := 0, slots := 0, locals := 0 } : Room) (zPc [.ref aF, .int iN] (dC, dI) (zTY cB cI cJ cZ cQ) (ws_c_isKnown cB cI cJ cZ cQ aF iN fsaF) sz) (va_Qi (fun (zr : Int32) (_ : Unit) => (zr = 1 ∧ iN = 0) ∨ (zr = 0 ∧ ¬ iN = 0)) (fun (_ : Unit) (t : State) => ∃ (gsaF : List Value), gsaF.length = 5 ∧ (∀ j : Nat, ¬ j ∈ ([] : List Nat) → gsaF[j]? = fsaF[j]?) ∧ va_P (dC, dI) vwCl [(aF, .inr (0, gsaF))] t.heap ∧ va_D (va_A (ws_c_isKnown cB cI cJ cZ cQ aF iN fsaF) sz) [(aF, .inr (0, gsaF))]) (va_A (ws_c_isKnown cB cI cJ cZ cQ aF iN fsaF) sz)) 0 0 (va_A (ws_c_isKnown cB cI cJ cZ cQ aF iN fsaF) sz) := by
  refine Met.ofW (cc := cX0_isKnown) (maxL := 2) (ret := (some .boolean)) (by decide) rfl ?_
  intro p e s m args below meth c s₁ B hml hv
  obtain ⟨rfl, hsz, hP0, hK, hO, hD0⟩ := hv
  have hx := B.exec
  have hb := B.bytes
  have hr := B.returns
  have hts := atoms_spec (ws := zs_c_isKnown) B.pre
  have hown : s.vm.findClass RX0 = some m.cls := findClass_of_methodNamed B.named
  have hlocks := B.notSynchronized
  subst hsz
  have hD8 := hD0.self (sz := s.heap.size)
  generalize hAe : va_A (ws_c_isKnown cB cI cJ cZ cQ aF iN fsaF) s.heap.size = A at hD8 ⊢
  have hA : ∀ q : Nat, s.heap.size ≤ q → A q := fun q h => by rw [← hAe]; exact Or.inr h
  have hS : va_S A s.heap s.heap [] := va_S.rf
  have hP : va_P (dC, dI) vwCl [(aF, .inr (0, fsaF))] s.heap := hP0
  have hD : va_D A [(aF, .inr (0, fsaF))] := hD8
  have hl := lv_entry ([.ref aF, .int iN]) (n := 2) (Nat.le_of_ble_eq_true rfl)
  rw [lg_entry_eq]
  generalize (lg_sl ([.ref aF, .int iN]) ++ List.replicate (2 - (lg_sl ([.ref aF, .int iN])).length) Slot.unset).toArray = ls at hl ⊢
  have hl : lv_has ls 2 [(0, .ref aF), (1, .int iN)] := hl
  clear hP0 hD8 hD0
  refine zH0 (fun H hP hS => ?_) hP hS
  refine lv_iload_n hx hb dX0_isKnown_0 rfl (lv_at hl 1 rfl) ?_
  refine lv_if_lt (tgt := 16) hx hb dX0_isKnown_1 (by decide) (fun c1 => ?_) (fun c1 => ?_)
  · skip
    refine lv_iconst (v := 0) hx hb dX0_isKnown_16 (by decide) ?_
    have hP9 : va_P (dC, dI) vwCl [(aF, .inr (0, fsaF))] H := hP.sub [0] rfl
    have hD9 : va_D A [(aF, .inr (0, fsaF))] := hD.sub [0] (by decide) rfl
    exact W.zret (v := 0) hx hb hr rfl (fun t ht hW => ⟨⟨0, (), rfl, (Or.inr ⟨rfl, (by simp only [Int32.lt_iff_toInt_lt, Int32.le_iff_toInt_le, ← Int32.toInt_inj, zi_m1, zi_0, zi_1, zi_6, zi_8, zi_M, zi_16, zi_20, zi_23, zi_24, zi_27, zi_29, zi_30, zi_40, zi_500, zi_700, zi_1000] at c1 ⊢<;> omega)⟩), ⟨fsaF, hlaF, (fun j hj => rfl), by rw [ht]; exact hP9, hD9⟩⟩, hS.F ht⟩) hS.2.2 dX0_isKnown_17
  · skip
    refine lv_iload_n hx hb dX0_isKnown_4 rfl (lv_at hl 1 rfl) ?_
    refine lv_aload_n hx hb dX0_isKnown_5 rfl (lv_at hl 0 rfl) ?_
    refine va_get (D := (dC, dI)) (ci := 0) (v := .int 0) (C := RX0) (T := TX0) (N := 5) hx hb hts in_c_isKnown_0 hown hK hP 0 rfl rfl 4 (by decide) (hts (.fieldLink RX0 26 "LanternHouse$Facts" "size" "I") (by decide +kernel)) (fun _ h9 => h9) haF_4 dX0_isKnown_6 ?_
    refine lv_icmp_gt (tgt := 16) hx hb dX0_isKnown_9 (by decide) (fun c2 => ?_) (fun c2 => ?_)
    · skip
      refine lv_iconst (v := 0) hx hb dX0_isKnown_16 (by decide) ?_
      have hP9 : va_P (dC, dI) vwCl [(aF, .inr (0, fsaF))] H := hP.sub [0] rfl
      have hD9 : va_D A [(aF, .inr (0, fsaF))] := hD.sub [0] (by decide) rfl
      exact W.zret (v := 0) hx hb hr rfl (fun t ht hW => ⟨⟨0, (), rfl, (Or.inr ⟨rfl, (by simp only [Int32.lt_iff_toInt_lt, Int32.le_iff_toInt_le, ← Int32.toInt_inj, zi_m1, zi_0, zi_1, zi_6, zi_8, zi_M, zi_16, zi_20, zi_23, zi_24, zi_27, zi_29, zi_30, zi_40, zi_500, zi_700, zi_1000] at c1 c2 ⊢<;> omega)⟩), ⟨fsaF, hlaF, (fun j hj => rfl), by rw [ht]; exact hP9, hD9⟩⟩, hS.F ht⟩) hS.2.2 dX0_isKnown_17
    · skip
      have ziN : iN = 0 := z_inj (by simp only [Int32.lt_iff_toInt_lt, Int32.le_iff_toInt_le, ← Int32.toInt_inj, zi_m1, zi_0, zi_1, zi_6, zi_8, zi_M, zi_16, zi_20, zi_23, zi_24, zi_27, zi_29, zi_30, zi_40, zi_500, zi_700, zi_1000] at c1 c2 ⊢<;> omega)
      subst ziN
      refine lv_iconst (v := 1) hx hb dX0_isKnown_12 (by decide) ?_
      refine lv_goto (tgt := 17) hx hb dX0_isKnown_13 (by decide) ?_
      have hP9 : va_P (dC, dI) vwCl [(aF, .inr (0, fsaF))] H := hP.sub [0] rfl
      have hD9 : va_D A [(aF, .inr (0, fsaF))] := hD.sub [0] (by decide) rfl
      exact W.zret (v := 1) hx hb hr rfl (fun t ht hW => ⟨⟨1, (), rfl, (Or.inl ⟨rfl, (by decide)⟩), ⟨fsaF, hlaF, (fun j hj => rfl), by rw [ht]; exact hP9, hD9⟩⟩, hS.F ht⟩) hS.2.2 dX0_isKnown_17

def zs_c_isTaken : List Cond := .code yX7_isTaken cX7_isTaken 4 (some .boolean) :: (([.fieldLink RX7 30 "LanternHouse$Shows" "size" "I"] : List Cond) ++ (wsX70 ++ []))
theorem gd_c_isTaken : (zs_c_isTaken).all goodWord = true := by decide +kernel
theorem in_c_isTaken_7 : ∀ w ∈ wsX70, w ∈ zs_c_isTaken := fun w h => List.mem_cons_of_mem _ (List.mem_append_right _ (List.mem_append_left _ h))
abbrev ws_c_isTaken (cB cI cJ cZ cQ : ClassId) (aSh : Nat) (iX : Int32) (iH : Int32) (fsaSh : List Value) : va_W := [(aSh, .inr (7, fsaSh))]
set_option maxHeartbeats 4000000 in
set_option maxRecDepth 100000 in
theorem c_isTaken (l : Launch) (dC : Nat → ClassId) (dI : Nat → Nat → Nat) (cB cI cJ cZ cQ : ClassId) (aSh : Nat) (iX : Int32) (iH : Int32) (fsaSh : List Value) (sz : Nat) (hlaSh : fsaSh.length = 8) (haSh_6 : fsaSh[6]? = some (.int 0)) : Met l yX7_isTaken zs_c_isTaken ({ frames := 0, cells := 0, slots := 0, locals := 0 } : Room) (zPc [.ref aSh, .int iX, .int iH] (dC, dI) (zTY cB cI cJ cZ cQ) (ws_c_isTaken cB cI cJ cZ cQ aSh iX iH fsaSh) sz) (va_Qi (fun (zr : Int32) (_ : Unit) => zr = 0) (fun (_ : Unit) (t : State) => ∃ (gsaSh : List Value), gsaSh.length = 8 ∧ (∀ j : Nat, ¬ j ∈ ([] : List Nat) → gsaSh[j]? = fsaSh[j]?) ∧ va_P (dC, dI) vwCl [(aSh, .inr (7, gsaSh))] t.heap ∧ va_D (va_A (ws_c_isTaken cB cI cJ cZ cQ aSh iX iH fsaSh) sz) [(aSh, .inr (7, gsaSh))]) (va_A (ws_c_isTaken cB cI cJ cZ cQ aSh iX iH fsaSh) sz)) 0 0 (va_A (ws_c_isTaken cB cI cJ cZ cQ aSh iX iH fsaSh) sz) := by
  refine Met.ofW (cc := cX7_isTaken) (maxL := 4) (ret := (some .boolean)) (by decide) rfl ?_
  intro p e s m args below meth c s₁ B hml hv
  obtain ⟨rfl, hsz, hP0, hK, hO, hD0⟩ := hv
  have hx := B.exec
  have hb := B.bytes
  have hr := B.returns
  have hts := atoms_spec (ws := zs_c_isTaken) B.pre
  have hown : s.vm.findClass RX7 = some m.cls := findClass_of_methodNamed B.named
  have hlocks := B.notSynchronized
  subst hsz
  have hD8 := hD0.self (sz := s.heap.size)
  generalize hAe : va_A (ws_c_isTaken cB cI cJ cZ cQ aSh iX iH fsaSh) s.heap.size = A at hD8 ⊢
  have hA : ∀ q : Nat, s.heap.size ≤ q → A q := fun q h => by rw [← hAe]; exact Or.inr h
  have hS : va_S A s.heap s.heap [] := va_S.rf
  have hP : va_P (dC, dI) vwCl [(aSh, .inr (7, fsaSh))] s.heap := hP0
  have hD : va_D A [(aSh, .inr (7, fsaSh))] := hD8
  have hl := lv_entry ([.ref aSh, .int iX, .int iH]) (n := 4) (Nat.le_of_ble_eq_true rfl)
  rw [lg_entry_eq]
  generalize (lg_sl ([.ref aSh, .int iX, .int iH]) ++ List.replicate (4 - (lg_sl ([.ref aSh, .int iX, .int iH])).length) Slot.unset).toArray = ls at hl ⊢
  have hl : lv_has ls 4 [(0, .ref aSh), (1, .int iX), (2, .int iH)] := hl
  clear hP0 hD8 hD0
  refine zH0 (fun H hP hS => ?_) hP hS
  refine lv_iconst (v := 0) hx hb dX7_isTaken_0 (by decide) ?_
  refine lv_istore_n (lv' := [(3, .int 0), (0, .ref aSh), (1, .int iX), (2, .int iH)]) hx hb dX7_isTaken_1 rfl hl (by decide) rfl (fun ls hl => ?_)
  refine lv_iload_n hx hb dX7_isTaken_2 rfl (lv_at hl 0 rfl) ?_
  refine lv_aload_n hx hb dX7_isTaken_3 rfl (lv_at hl 1 rfl) ?_
  refine va_get (D := (dC, dI)) (ci := 7) (v := .int 0) (C := RX7) (T := TX7) (N := 8) hx hb hts in_c_isTaken_7 hown hK hP 0 rfl rfl 6 (by decide) (hts (.fieldLink RX7 30 "LanternHouse$Shows" "size" "I") (by decide +kernel)) (fun _ h9 => h9) haSh_6 dX7_isTaken_4 ?_
  refine lv_icmp_ge (tgt := 38) hx hb dX7_isTaken_7 (by decide) (fun _ => ?_) (fun zc => absurd zc (by decide))
  refine lv_iconst (v := 0) hx hb dX7_isTaken_38 (by decide) ?_
  have hP9 : va_P (dC, dI) vwCl [(aSh, .inr (7, fsaSh))] H := hP.sub [0] rfl
  have hD9 : va_D A [(aSh, .inr (7, fsaSh))] := hD.sub [0] (by decide) rfl
  exact W.zret (v := 0) hx hb hr rfl (fun t ht hW => ⟨⟨0, (), rfl, rfl, ⟨fsaSh, hlaSh, (fun j hj => rfl), by rw [ht]; exact hP9, hD9⟩⟩, hS.F ht⟩) hS.2.2 dX7_isTaken_39

def zs_c_shadd : List Cond := .code yX7_add cX7_add 6 (some .int) :: (([.fieldLink RX7 30 "LanternHouse$Shows" "size" "I", .fieldLink RX7 34 "LanternHouse$Shows" "text" "LLanternHouse$Lectures;", .fieldLink RX7 42 "LanternHouse$Lectures" "size" "I", .methodLink RX7 38 yX7_isTaken, .instanceMethod yX7_isTaken, .selects RX7 yX7_isTaken yX7_isTaken, .initialized RX7] : List Cond) ++ (zs_c_isTaken ++ (wsX70 ++ (wsX20 ++ []))))
theorem gd_c_shadd : (zs_c_shadd).all goodWord = true := by decide +kernel
theorem in_c_shadd_7 : ∀ w ∈ wsX70, w ∈ zs_c_shadd := fun w h => List.mem_cons_of_mem _ (List.mem_append_right _ (List.mem_append_right _ (List.mem_append_left _ h)))
theorem in_c_shadd_2 : ∀ w ∈ wsX20, w ∈ zs_c_shadd := fun w h => List.mem_cons_of_mem _ (List.mem_append_right _ (List.mem_append_right _ (List.mem_append_right _ (List.mem_append_left _ h))))
theorem g_c_shadd_c_isTaken_38 : GoodIn zs_c_shadd (wsV RX7 38 RX7 yX7_isTaken zs_c_isTaken) := goodIn_app (goodIn_of _ (by decide +kernel)) (goodIn_sub (fun w h => List.mem_cons_of_mem _ (List.mem_append_right _ (List.mem_append_left _ h))) gd_c_isTaken)
abbrev ws_c_shadd (cB cI cJ cZ cQ : ClassId) (aSh aX : Nat) (iX : Int32) (iH : Int32) (iL : Int32) (iG : Int32) (iWo : Int32) (fsaSh : List Value) (fsaX : List Value) : va_W := [(aSh, .inr (7, fsaSh)), (aX, .inr (2, fsaX))]
set_option maxHeartbeats 4000000 in
set_option maxRecDepth 100000 in
theorem c_shadd (l : Launch) (dC : Nat → ClassId) (dI : Nat → Nat → Nat) (cB cI cJ cZ cQ : ClassId) (aSh aX : Nat) (iX : Int32) (iH : Int32) (iL : Int32) (iG : Int32) (iWo : Int32) (fsaSh : List Value) (fsaX : List Value) (sz : Nat) (hlaSh : fsaSh.length = 8) (haSh_6 : fsaSh[6]? = some (.int 0)) (haSh_7 : fsaSh[7]? = some (.ref aX)) (hlaX : fsaX.length = 13) (haX_12 : fsaX[12]? = some (.int 0)) : Met l yX7_add zs_c_shadd ({ frames := 1, cells := 0, slots := 0, locals := 23 } : Room) (zPc [.ref aSh, .int iX, .int iH, .int iL, .int iG, .int iWo] (dC, dI) (zTY cB cI cJ cZ cQ) (ws_c_shadd cB cI cJ cZ cQ aSh aX iX iH iL iG iWo fsaSh fsaX) sz) (va_Qi (fun (zr : Int32) (_ : Unit) => zr = (-1)) (fun (_ : Unit) (_ : State) => True) (va_A (ws_c_shadd cB cI cJ cZ cQ aSh aX iX iH iL iG iWo fsaSh fsaX) sz)) 0 0 (va_A (ws_c_shadd cB cI cJ cZ cQ aSh aX iX iH iL iG iWo fsaSh fsaX) sz) := by
  refine Met.ofW (cc := cX7_add) (maxL := 6) (ret := (some .int)) (by decide) rfl ?_
  intro p e s m args below meth c s₁ B hml hv
  obtain ⟨rfl, hsz, hP0, hK, hO, hD0⟩ := hv
  have hx := B.exec
  have hb := B.bytes
  have hr := B.returns
  have hts := atoms_spec (ws := zs_c_shadd) B.pre
  have hown : s.vm.findClass RX7 = some m.cls := findClass_of_methodNamed B.named
  have hlocks := B.notSynchronized
  subst hsz
  have hD8 := hD0.self (sz := s.heap.size)
  generalize hAe : va_A (ws_c_shadd cB cI cJ cZ cQ aSh aX iX iH iL iG iWo fsaSh fsaX) s.heap.size = A at hD8 ⊢
  have hA : ∀ q : Nat, s.heap.size ≤ q → A q := fun q h => by rw [← hAe]; exact Or.inr h
  have hS : va_S A s.heap s.heap [] := va_S.rf
  have hP : va_P (dC, dI) vwCl [(aSh, .inr (7, fsaSh)), (aX, .inr (2, fsaX))] s.heap := hP0
  have hD : va_D A [(aSh, .inr (7, fsaSh)), (aX, .inr (2, fsaX))] := hD8
  have hl := lv_entry ([.ref aSh, .int iX, .int iH, .int iL, .int iG, .int iWo]) (n := 6) (Nat.le_of_ble_eq_true rfl)
  rw [lg_entry_eq]
  generalize (lg_sl ([.ref aSh, .int iX, .int iH, .int iL, .int iG, .int iWo]) ++ List.replicate (6 - (lg_sl ([.ref aSh, .int iX, .int iH, .int iL, .int iG, .int iWo])).length) Slot.unset).toArray = ls at hl ⊢
  have hl : lv_has ls 6 [(0, .ref aSh), (1, .int iX), (2, .int iH), (3, .int iL), (4, .int iG), (5, .int iWo)] := hl
  clear hP0 hD8 hD0
  refine zH0 (fun H hP hS => ?_) hP hS
  refine lv_aload_n hx hb dX7_add_0 rfl (lv_at hl 0 rfl) ?_
  refine va_get (D := (dC, dI)) (ci := 7) (v := .int 0) (C := RX7) (T := TX7) (N := 8) hx hb hts in_c_shadd_7 hown hK hP 0 rfl rfl 6 (by decide) (hts (.fieldLink RX7 30 "LanternHouse$Shows" "size" "I") (by decide +kernel)) (fun _ h9 => h9) haSh_6 dX7_add_1 ?_
  refine lv_bipush (v := 8) hx hb dX7_add_4 (by decide) ?_
  refine lv_icmp_ge (tgt := 28) hx hb dX7_add_6 (by decide) (fun zc => absurd zc (by decide)) (fun _ => ?_)
  refine lv_iload_n hx hb dX7_add_9 rfl (lv_at hl 1 rfl) ?_
  refine lv_if_lt (tgt := 28) hx hb dX7_add_10 (by decide) (fun c1 => ?_) (fun c1 => ?_)
  · skip
    refine lv_iconst (v := (-1)) hx hb dX7_add_28 (by decide) ?_
    exact W.iret (v := (-1)) hx hb hr (fun t ht hW => ⟨⟨(-1), (), rfl, rfl, trivial⟩, hS.F ht⟩) hS.2.2 dX7_add_29
  · skip
    refine lv_iload_n hx hb dX7_add_13 rfl (lv_at hl 1 rfl) ?_
    refine lv_bipush (v := 27) hx hb dX7_add_14 (by decide) ?_
    refine lv_icmp_gt (tgt := 28) hx hb dX7_add_16 (by decide) (fun c2 => ?_) (fun c2 => ?_)
    · skip
      refine lv_iconst (v := (-1)) hx hb dX7_add_28 (by decide) ?_
      exact W.iret (v := (-1)) hx hb hr (fun t ht hW => ⟨⟨(-1), (), rfl, rfl, trivial⟩, hS.F ht⟩) hS.2.2 dX7_add_29
    · skip
      refine lv_aload_n hx hb dX7_add_19 rfl (lv_at hl 0 rfl) ?_
      refine lv_iload_n hx hb dX7_add_20 rfl (lv_at hl 1 rfl) ?_
      refine lv_iload_n hx hb dX7_add_21 rfl (lv_at hl 2 rfl) ?_
      have hPc : va_P (dC, dI) vwCl (ws_c_isTaken cB cI cJ cZ cQ aSh iX iH fsaSh) H := hP.sub [0] rfl
      have hDc := hD.sub (ws' := (ws_c_isTaken cB cI cJ cZ cQ aSh iX iH fsaSh)) [0] (by decide) rfl
      have hFc := va_free (wc := (ws_c_isTaken cB cI cJ cZ cQ aSh iX iH fsaSh)) hD hS hA [0] rfl
      refine va_calli (va_runV (As := [.int iX, .int iH]) (rest := []) ⟨hx, hb, hml, hown, hts⟩ (c_isTaken l dC dI cB cI cJ cZ cQ aSh iX iH fsaSh H.size hlaSh haSh_6) (cwV 2 hts g_c_shadd_c_isTaken_38 rfl rfl rfl (by decide +kernel) ⟨Nat.le_of_ble_eq_true rfl, Nat.le_of_ble_eq_true rfl⟩) ⟨zFB, va_recv hK hP (ci := 7) (q0 := 0) rfl rfl, fun U hU hW => zUp hU hW hPc hK hO hDc⟩ rfl rfl hl.1 rfl (lv_room (Nat.le_of_ble_eq_true rfl)) dX7_add_22 ⟨Nat.le_of_ble_eq_true rfl, Nat.le_of_ble_eq_true rfl⟩) hS (fun q _ h => hFc q h) hFc (fun r3 u t H1 locs ht hvm hw4 hB hz1 hk1 hS => ?_)
      obtain ⟨gs5, hgl6, hgf7, hP1, hD1⟩ := hB
      rw [ht] at hP1
      obtain ⟨hP, hD⟩ := va_join (wr := [(aX, .inr (2, fsaX))]) (w1 := [(aSh, .inr (7, gs5))]) hP hD [0] [1] rfl rfl (by decide) (by decide) hk1 hFc hP1 hD1
      generalize H1 = H at hP hS ⊢
      have hP : va_P (dC, dI) vwCl [(aX, .inr (2, fsaX)), (aSh, .inr (7, gs5))] H := hP
      have hD : va_D A [(aX, .inr (2, fsaX)), (aSh, .inr (7, gs5))] := hD
      obtain rfl : r3 = 0 := hw4
      refine lv_if_eq (tgt := 30) hx hb dX7_add_25 (by decide) (fun _ => ?_) (fun zc => absurd zc (by decide))
      refine lv_iload_n hx hb dX7_add_30 rfl (lv_at hl 3 rfl) ?_
      refine lv_if_lt (tgt := 71) hx hb dX7_add_31 (by decide) (fun c8 => ?_) (fun c8 => ?_)
      · skip
        refine lv_iconst (v := (-1)) hx hb dX7_add_71 (by decide) ?_
        exact W.iret (v := (-1)) hx hb hr (fun t ht hW => ⟨⟨(-1), (), rfl, rfl, trivial⟩, hS.F ht⟩) hS.2.2 dX7_add_72
      · skip
        refine lv_iload_n hx hb dX7_add_34 rfl (lv_at hl 3 rfl) ?_
        refine lv_aload_n hx hb dX7_add_35 rfl (lv_at hl 0 rfl) ?_
        refine va_get (D := (dC, dI)) (ci := 7) (v := .ref aX) (C := RX7) (T := TX7) (N := 8) hx hb hts in_c_shadd_7 hown hK hP 1 rfl rfl 7 (by decide) (hts (.fieldLink RX7 34 "LanternHouse$Shows" "text" "LLanternHouse$Lectures;") (by decide +kernel)) (fun _ h9 => h9) ((hgf7 7 (by decide)).trans haSh_7) dX7_add_36 ?_
        refine va_get (D := (dC, dI)) (ci := 2) (v := .int 0) (C := RX2) (T := TX2) (N := 13) hx hb hts in_c_shadd_2 hown hK hP 0 rfl rfl 12 (by decide) (hts (.fieldLink RX7 42 "LanternHouse$Lectures" "size" "I") (by decide +kernel)) (fun _ h9 => h9) haX_12 dX7_add_39 ?_
        refine lv_icmp_ge (tgt := 71) hx hb dX7_add_42 (by decide) (fun c9 => ?_) (fun c9 => ?_)
        · skip
          refine lv_iconst (v := (-1)) hx hb dX7_add_71 (by decide) ?_
          exact W.iret (v := (-1)) hx hb hr (fun t ht hW => ⟨⟨(-1), (), rfl, rfl, trivial⟩, hS.F ht⟩) hS.2.2 dX7_add_72
        · skip
          exfalso
          simp only [Int32.lt_iff_toInt_lt, Int32.le_iff_toInt_le, ← Int32.toInt_inj, zi_m1, zi_0, zi_1, zi_6, zi_8, zi_M, zi_16, zi_20, zi_23, zi_24, zi_27, zi_29, zi_30, zi_40, zi_500, zi_700, zi_1000] at c1 c2 c8 c9 <;> omega

def zs_c_startOver : List Cond := .code yX7_startOver cX7_startOver 2 none :: (([.fieldLink RX7 34 "LanternHouse$Shows" "text" "LLanternHouse$Lectures;", .fieldLink RX7 30 "LanternHouse$Shows" "size" "I"] : List Cond) ++ (wsX70 ++ []))
theorem gd_c_startOver : (zs_c_startOver).all goodWord = true := by decide +kernel
theorem in_c_startOver_7 : ∀ w ∈ wsX70, w ∈ zs_c_startOver := fun w h => List.mem_cons_of_mem _ (List.mem_append_right _ (List.mem_append_left _ h))
abbrev ws_c_startOver (cB cI cJ cZ cQ : ClassId) (aSh aD : Nat) (fsaSh : List Value) : va_W := [(aSh, .inr (7, fsaSh))]
set_option maxHeartbeats 4000000 in
set_option maxRecDepth 100000 in
theorem c_startOver (l : Launch) (dC : Nat → ClassId) (dI : Nat → Nat → Nat) (cB cI cJ cZ cQ : ClassId) (aSh aD : Nat) (fsaSh : List Value) (sz : Nat) (hlaSh : fsaSh.length = 8) : Met l yX7_startOver zs_c_startOver ({ frames := 0, cells := 0, slots := 0, locals := 0 } : Room) (zPc [.ref aSh, .ref aD] (dC, dI) (zTY cB cI cJ cZ cQ) (ws_c_startOver cB cI cJ cZ cQ aSh aD fsaSh) sz) (va_Qv (fun (_ : Unit) => True) (fun (_ : Unit) (_ : State) => True) (va_A (ws_c_startOver cB cI cJ cZ cQ aSh aD fsaSh) sz)) 0 0 (va_A (ws_c_startOver cB cI cJ cZ cQ aSh aD fsaSh) sz) := by
  refine Met.ofW (cc := cX7_startOver) (maxL := 2) (ret := none) (by decide) rfl ?_
  intro p e s m args below meth c s₁ B hml hv
  obtain ⟨rfl, hsz, hP0, hK, hO, hD0⟩ := hv
  have hx := B.exec
  have hb := B.bytes
  have hr := B.returns
  have hts := atoms_spec (ws := zs_c_startOver) B.pre
  have hown : s.vm.findClass RX7 = some m.cls := findClass_of_methodNamed B.named
  have hlocks := B.notSynchronized
  subst hsz
  have hD8 := hD0.self (sz := s.heap.size)
  generalize hAe : va_A (ws_c_startOver cB cI cJ cZ cQ aSh aD fsaSh) s.heap.size = A at hD8 ⊢
  have hA : ∀ q : Nat, s.heap.size ≤ q → A q := fun q h => by rw [← hAe]; exact Or.inr h
  have hS : va_S A s.heap s.heap [] := va_S.rf
  have hP : va_P (dC, dI) vwCl [(aSh, .inr (7, fsaSh))] s.heap := hP0
  have hD : va_D A [(aSh, .inr (7, fsaSh))] := hD8
  have hl := lv_entry ([.ref aSh, .ref aD]) (n := 2) (Nat.le_of_ble_eq_true rfl)
  rw [lg_entry_eq]
  generalize (lg_sl ([.ref aSh, .ref aD]) ++ List.replicate (2 - (lg_sl ([.ref aSh, .ref aD])).length) Slot.unset).toArray = ls at hl ⊢
  have hl : lv_has ls 2 [(0, .ref aSh), (1, .ref aD)] := hl
  clear hP0 hD8 hD0
  refine zH0 (fun H hP hS => ?_) hP hS
  refine lv_aload_n hx hb dX7_startOver_0 rfl (lv_at hl 0 rfl) ?_
  refine lv_aload_n hx hb dX7_startOver_1 rfl (lv_at hl 1 rfl) ?_
  refine va_put (D := (dC, dI)) (ci := 7) (v := .ref aD) (ty := .object "LanternHouse$Lectures") (C := RX7) (T := TX7) (N := 8) hx hb hts in_c_startOver_7 tyX7 tyX7_ok nmX7 hown hK hP hD hS 0 rfl rfl 7 (by decide) (hts (.fieldLink RX7 34 "LanternHouse$Shows" "text" "LLanternHouse$Lectures;") (by decide +kernel)) (fun _ h9 => h9) rfl (by decide +kernel) rfl rfl (by rw [hlaSh]; decide) dX7_startOver_2 (fun H locs hP hD hS => ?_)
  have hP : va_P (dC, dI) vwCl [(aSh, .inr (7, (List.set fsaSh 7 (.ref aD))))] H := hP
  have hD : va_D A [(aSh, .inr (7, (List.set fsaSh 7 (.ref aD))))] := hD
  refine lv_aload_n hx hb dX7_startOver_5 rfl (lv_at hl 0 rfl) ?_
  refine lv_iconst (v := 0) hx hb dX7_startOver_6 (by decide) ?_
  refine va_put (D := (dC, dI)) (ci := 7) (v := .int 0) (ty := .int) (C := RX7) (T := TX7) (N := 8) hx hb hts in_c_startOver_7 tyX7 tyX7_ok nmX7 hown hK hP hD hS 0 rfl rfl 6 (by decide) (hts (.fieldLink RX7 30 "LanternHouse$Shows" "size" "I") (by decide +kernel)) (fun _ h9 => h9) rfl (by decide +kernel) rfl rfl (by rw [(zset_len hlaSh)]; decide) dX7_startOver_7 (fun H locs hP hD hS => ?_)
  have hP : va_P (dC, dI) vwCl [(aSh, .inr (7, (List.set (List.set fsaSh 7 (.ref aD)) 6 (.int 0))))] H := hP
  have hD : va_D A [(aSh, .inr (7, (List.set (List.set fsaSh 7 (.ref aD)) 6 (.int 0))))] := hD
  exact W.vret hx hb hr (fun t ht hW => ⟨⟨(), rfl, trivial, trivial⟩, hS.F ht⟩) hS.2.2 dX7_startOver_10

def zs_c_isShow : List Cond := .code yX7_isShow cX7_isShow 2 (some .boolean) :: (([.fieldLink RX7 30 "LanternHouse$Shows" "size" "I"] : List Cond) ++ (wsX70 ++ []))
theorem gd_c_isShow : (zs_c_isShow).all goodWord = true := by decide +kernel
theorem in_c_isShow_7 : ∀ w ∈ wsX70, w ∈ zs_c_isShow := fun w h => List.mem_cons_of_mem _ (List.mem_append_right _ (List.mem_append_left _ h))
abbrev ws_c_isShow (cB cI cJ cZ cQ : ClassId) (aSh : Nat) (iX : Int32) (fsaSh : List Value) : va_W := [(aSh, .inr (7, fsaSh))]
set_option maxHeartbeats 4000000 in
set_option maxRecDepth 100000 in
theorem c_isShow (l : Launch) (dC : Nat → ClassId) (dI : Nat → Nat → Nat) (cB cI cJ cZ cQ : ClassId) (aSh : Nat) (iX : Int32) (fsaSh : List Value) (sz : Nat) (hlaSh : fsaSh.length = 8) (haSh_6 : fsaSh[6]? = some (.int 0)) : Met l yX7_isShow zs_c_isShow ({ frames := 0, cells := 0, slots := 0, locals := 0 } : Room) (zPc [.ref aSh, .int iX] (dC, dI) (zTY cB cI cJ cZ cQ) (ws_c_isShow cB cI cJ cZ cQ aSh iX fsaSh) sz) (va_Qi (fun (zr : Int32) (_ : Unit) => zr = 0) (fun (_ : Unit) (t : State) => ∃ (gsaSh : List Value), gsaSh.length = 8 ∧ (∀ j : Nat, ¬ j ∈ ([] : List Nat) → gsaSh[j]? = fsaSh[j]?) ∧ va_P (dC, dI) vwCl [(aSh, .inr (7, gsaSh))] t.heap ∧ va_D (va_A (ws_c_isShow cB cI cJ cZ cQ aSh iX fsaSh) sz) [(aSh, .inr (7, gsaSh))]) (va_A (ws_c_isShow cB cI cJ cZ cQ aSh iX fsaSh) sz)) 0 0 (va_A (ws_c_isShow cB cI cJ cZ cQ aSh iX fsaSh) sz) := by
  refine Met.ofW (cc := cX7_isShow) (maxL := 2) (ret := (some .boolean)) (by decide) rfl ?_
  intro p e s m args below meth c s₁ B hml hv
  obtain ⟨rfl, hsz, hP0, hK, hO, hD0⟩ := hv
  have hx := B.exec
  have hb := B.bytes
  have hr := B.returns
  have hts := atoms_spec (ws := zs_c_isShow) B.pre
  have hown : s.vm.findClass RX7 = some m.cls := findClass_of_methodNamed B.named
  have hlocks := B.notSynchronized
  subst hsz
  have hD8 := hD0.self (sz := s.heap.size)
  generalize hAe : va_A (ws_c_isShow cB cI cJ cZ cQ aSh iX fsaSh) s.heap.size = A at hD8 ⊢
  have hA : ∀ q : Nat, s.heap.size ≤ q → A q := fun q h => by rw [← hAe]; exact Or.inr h
  have hS : va_S A s.heap s.heap [] := va_S.rf
  have hP : va_P (dC, dI) vwCl [(aSh, .inr (7, fsaSh))] s.heap := hP0
  have hD : va_D A [(aSh, .inr (7, fsaSh))] := hD8
  have hl := lv_entry ([.ref aSh, .int iX]) (n := 2) (Nat.le_of_ble_eq_true rfl)
  rw [lg_entry_eq]
  generalize (lg_sl ([.ref aSh, .int iX]) ++ List.replicate (2 - (lg_sl ([.ref aSh, .int iX])).length) Slot.unset).toArray = ls at hl ⊢
  have hl : lv_has ls 2 [(0, .ref aSh), (1, .int iX)] := hl
  clear hP0 hD8 hD0
  refine zH0 (fun H hP hS => ?_) hP hS
  refine lv_iload_n hx hb dX7_isShow_0 rfl (lv_at hl 1 rfl) ?_
  refine lv_if_lt (tgt := 16) hx hb dX7_isShow_1 (by decide) (fun c1 => ?_) (fun c1 => ?_)
  · skip
    refine lv_iconst (v := 0) hx hb dX7_isShow_16 (by decide) ?_
    have hP9 : va_P (dC, dI) vwCl [(aSh, .inr (7, fsaSh))] H := hP.sub [0] rfl
    have hD9 : va_D A [(aSh, .inr (7, fsaSh))] := hD.sub [0] (by decide) rfl
    exact W.zret (v := 0) hx hb hr rfl (fun t ht hW => ⟨⟨0, (), rfl, rfl, ⟨fsaSh, hlaSh, (fun j hj => rfl), by rw [ht]; exact hP9, hD9⟩⟩, hS.F ht⟩) hS.2.2 dX7_isShow_17
  · skip
    refine lv_iload_n hx hb dX7_isShow_4 rfl (lv_at hl 1 rfl) ?_
    refine lv_aload_n hx hb dX7_isShow_5 rfl (lv_at hl 0 rfl) ?_
    refine va_get (D := (dC, dI)) (ci := 7) (v := .int 0) (C := RX7) (T := TX7) (N := 8) hx hb hts in_c_isShow_7 hown hK hP 0 rfl rfl 6 (by decide) (hts (.fieldLink RX7 30 "LanternHouse$Shows" "size" "I") (by decide +kernel)) (fun _ h9 => h9) haSh_6 dX7_isShow_6 ?_
    refine lv_icmp_ge (tgt := 16) hx hb dX7_isShow_9 (by decide) (fun c2 => ?_) (fun c2 => ?_)
    · skip
      refine lv_iconst (v := 0) hx hb dX7_isShow_16 (by decide) ?_
      have hP9 : va_P (dC, dI) vwCl [(aSh, .inr (7, fsaSh))] H := hP.sub [0] rfl
      have hD9 : va_D A [(aSh, .inr (7, fsaSh))] := hD.sub [0] (by decide) rfl
      exact W.zret (v := 0) hx hb hr rfl (fun t ht hW => ⟨⟨0, (), rfl, rfl, ⟨fsaSh, hlaSh, (fun j hj => rfl), by rw [ht]; exact hP9, hD9⟩⟩, hS.F ht⟩) hS.2.2 dX7_isShow_17
    · skip
      exfalso
      simp only [Int32.lt_iff_toInt_lt, Int32.le_iff_toInt_le, ← Int32.toInt_inj, zi_m1, zi_0, zi_1, zi_6, zi_8, zi_M, zi_16, zi_20, zi_23, zi_24, zi_27, zi_29, zi_30, zi_40, zi_500, zi_700, zi_1000] at c1 c2 <;> omega

def zs_c_all : List Cond := .code yX7_all cX7_all 1 (some .int) :: (([.fieldLink RX7 30 "LanternHouse$Shows" "size" "I"] : List Cond) ++ (wsX70 ++ []))
theorem gd_c_all : (zs_c_all).all goodWord = true := by decide +kernel
theorem in_c_all_7 : ∀ w ∈ wsX70, w ∈ zs_c_all := fun w h => List.mem_cons_of_mem _ (List.mem_append_right _ (List.mem_append_left _ h))
abbrev ws_c_all (cB cI cJ cZ cQ : ClassId) (aSh : Nat) (fsaSh : List Value) : va_W := [(aSh, .inr (7, fsaSh))]
set_option maxHeartbeats 4000000 in
set_option maxRecDepth 100000 in
theorem c_all (l : Launch) (dC : Nat → ClassId) (dI : Nat → Nat → Nat) (cB cI cJ cZ cQ : ClassId) (aSh : Nat) (fsaSh : List Value) (sz : Nat) (hlaSh : fsaSh.length = 8) (haSh_6 : fsaSh[6]? = some (.int 0)) : Met l yX7_all zs_c_all ({ frames := 0, cells := 0, slots := 0, locals := 0 } : Room) (zPc [.ref aSh] (dC, dI) (zTY cB cI cJ cZ cQ) (ws_c_all cB cI cJ cZ cQ aSh fsaSh) sz) (va_Qi (fun (zr : Int32) (_ : Unit) => zr = 0) (fun (_ : Unit) (t : State) => ∃ (gsaSh : List Value), gsaSh.length = 8 ∧ (∀ j : Nat, ¬ j ∈ ([] : List Nat) → gsaSh[j]? = fsaSh[j]?) ∧ va_P (dC, dI) vwCl [(aSh, .inr (7, gsaSh))] t.heap ∧ va_D (va_A (ws_c_all cB cI cJ cZ cQ aSh fsaSh) sz) [(aSh, .inr (7, gsaSh))]) (va_A (ws_c_all cB cI cJ cZ cQ aSh fsaSh) sz)) 0 0 (va_A (ws_c_all cB cI cJ cZ cQ aSh fsaSh) sz) := by
  refine Met.ofW (cc := cX7_all) (maxL := 1) (ret := (some .int)) (by decide) rfl ?_
  intro p e s m args below meth c s₁ B hml hv
  obtain ⟨rfl, hsz, hP0, hK, hO, hD0⟩ := hv
  have hx := B.exec
  have hb := B.bytes
  have hr := B.returns
  have hts := atoms_spec (ws := zs_c_all) B.pre
  have hown : s.vm.findClass RX7 = some m.cls := findClass_of_methodNamed B.named
  have hlocks := B.notSynchronized
  subst hsz
  have hD8 := hD0.self (sz := s.heap.size)
  generalize hAe : va_A (ws_c_all cB cI cJ cZ cQ aSh fsaSh) s.heap.size = A at hD8 ⊢
  have hA : ∀ q : Nat, s.heap.size ≤ q → A q := fun q h => by rw [← hAe]; exact Or.inr h
  have hS : va_S A s.heap s.heap [] := va_S.rf
  have hP : va_P (dC, dI) vwCl [(aSh, .inr (7, fsaSh))] s.heap := hP0
  have hD : va_D A [(aSh, .inr (7, fsaSh))] := hD8
  have hl := lv_entry ([.ref aSh]) (n := 1) (Nat.le_of_ble_eq_true rfl)
  rw [lg_entry_eq]
  generalize (lg_sl ([.ref aSh]) ++ List.replicate (1 - (lg_sl ([.ref aSh])).length) Slot.unset).toArray = ls at hl ⊢
  have hl : lv_has ls 1 [(0, .ref aSh)] := hl
  clear hP0 hD8 hD0
  refine zH0 (fun H hP hS => ?_) hP hS
  refine lv_iconst (v := 1) hx hb dX7_all_0 (by decide) ?_
  refine lv_aload_n hx hb dX7_all_1 rfl (lv_at hl 0 rfl) ?_
  refine va_get (D := (dC, dI)) (ci := 7) (v := .int 0) (C := RX7) (T := TX7) (N := 8) hx hb hts in_c_all_7 hown hK hP 0 rfl rfl 6 (by decide) (hts (.fieldLink RX7 30 "LanternHouse$Shows" "size" "I") (by decide +kernel)) (fun _ h9 => h9) haSh_6 dX7_all_2 ?_
  refine lv_ishl hx hb dX7_all_5 ?_
  refine lv_topi (fun x1 ex1 => ?_)
  obtain rfl : x1 = 1 := ex1.trans (by decide)
  refine lv_iconst (v := 1) hx hb dX7_all_6 (by decide) ?_
  refine lv_isub hx hb dX7_all_7 ?_
  refine lv_topi (fun x2 ex2 => ?_)
  obtain rfl : x2 = 0 := ex2.trans (by decide)
  have hP9 : va_P (dC, dI) vwCl [(aSh, .inr (7, fsaSh))] H := hP.sub [0] rfl
  have hD9 : va_D A [(aSh, .inr (7, fsaSh))] := hD.sub [0] (by decide) rfl
  exact W.iret (v := 0) hx hb hr (fun t ht hW => ⟨⟨0, (), rfl, rfl, ⟨fsaSh, hlaSh, (fun j hj => rfl), by rw [ht]; exact hP9, hD9⟩⟩, hS.F ht⟩) hS.2.2 dX7_all_8

def zs_c_worthOf : List Cond := .code yX7_worthOf cX7_worthOf 4 (some .int) :: (([.fieldLink RX7 30 "LanternHouse$Shows" "size" "I"] : List Cond) ++ (wsX70 ++ []))
theorem gd_c_worthOf : (zs_c_worthOf).all goodWord = true := by decide +kernel
theorem in_c_worthOf_7 : ∀ w ∈ wsX70, w ∈ zs_c_worthOf := fun w h => List.mem_cons_of_mem _ (List.mem_append_right _ (List.mem_append_left _ h))
abbrev ws_c_worthOf (cB cI cJ cZ cQ : ClassId) (aSh : Nat) (fsaSh : List Value) : va_W := [(aSh, .inr (7, fsaSh))]
set_option maxHeartbeats 4000000 in
set_option maxRecDepth 100000 in
theorem c_worthOf (l : Launch) (dC : Nat → ClassId) (dI : Nat → Nat → Nat) (cB cI cJ cZ cQ : ClassId) (aSh : Nat) (fsaSh : List Value) (sz : Nat) (hlaSh : fsaSh.length = 8) (haSh_6 : fsaSh[6]? = some (.int 0)) : Met l yX7_worthOf zs_c_worthOf ({ frames := 0, cells := 0, slots := 0, locals := 0 } : Room) (zPc [.ref aSh, .int 0] (dC, dI) (zTY cB cI cJ cZ cQ) (ws_c_worthOf cB cI cJ cZ cQ aSh fsaSh) sz) (va_Qi (fun (zr : Int32) (_ : Unit) => zr = 0) (fun (_ : Unit) (t : State) => ∃ (gsaSh : List Value), gsaSh.length = 8 ∧ (∀ j : Nat, ¬ j ∈ ([] : List Nat) → gsaSh[j]? = fsaSh[j]?) ∧ va_P (dC, dI) vwCl [(aSh, .inr (7, gsaSh))] t.heap ∧ va_D (va_A (ws_c_worthOf cB cI cJ cZ cQ aSh fsaSh) sz) [(aSh, .inr (7, gsaSh))]) (va_A (ws_c_worthOf cB cI cJ cZ cQ aSh fsaSh) sz)) 0 0 (va_A (ws_c_worthOf cB cI cJ cZ cQ aSh fsaSh) sz) := by
  refine Met.ofW (cc := cX7_worthOf) (maxL := 4) (ret := (some .int)) (by decide) rfl ?_
  intro p e s m args below meth c s₁ B hml hv
  obtain ⟨rfl, hsz, hP0, hK, hO, hD0⟩ := hv
  have hx := B.exec
  have hb := B.bytes
  have hr := B.returns
  have hts := atoms_spec (ws := zs_c_worthOf) B.pre
  have hown : s.vm.findClass RX7 = some m.cls := findClass_of_methodNamed B.named
  have hlocks := B.notSynchronized
  subst hsz
  have hD8 := hD0.self (sz := s.heap.size)
  generalize hAe : va_A (ws_c_worthOf cB cI cJ cZ cQ aSh fsaSh) s.heap.size = A at hD8 ⊢
  have hA : ∀ q : Nat, s.heap.size ≤ q → A q := fun q h => by rw [← hAe]; exact Or.inr h
  have hS : va_S A s.heap s.heap [] := va_S.rf
  have hP : va_P (dC, dI) vwCl [(aSh, .inr (7, fsaSh))] s.heap := hP0
  have hD : va_D A [(aSh, .inr (7, fsaSh))] := hD8
  have hl := lv_entry ([.ref aSh, .int 0]) (n := 4) (Nat.le_of_ble_eq_true rfl)
  rw [lg_entry_eq]
  generalize (lg_sl ([.ref aSh, .int 0]) ++ List.replicate (4 - (lg_sl ([.ref aSh, .int 0])).length) Slot.unset).toArray = ls at hl ⊢
  have hl : lv_has ls 4 [(0, .ref aSh), (1, .int 0)] := hl
  clear hP0 hD8 hD0
  refine zH0 (fun H hP hS => ?_) hP hS
  refine lv_iconst (v := 0) hx hb dX7_worthOf_0 (by decide) ?_
  refine lv_istore_n (lv' := [(2, .int 0), (0, .ref aSh), (1, .int 0)]) hx hb dX7_worthOf_1 rfl hl (by decide) rfl (fun ls hl => ?_)
  refine lv_iconst (v := 0) hx hb dX7_worthOf_2 (by decide) ?_
  refine lv_istore_n (lv' := [(3, .int 0), (2, .int 0), (0, .ref aSh), (1, .int 0)]) hx hb dX7_worthOf_3 rfl hl (by decide) rfl (fun ls hl => ?_)
  refine lv_iload_n hx hb dX7_worthOf_4 rfl (lv_at hl 0 rfl) ?_
  refine lv_aload_n hx hb dX7_worthOf_5 rfl (lv_at hl 2 rfl) ?_
  refine va_get (D := (dC, dI)) (ci := 7) (v := .int 0) (C := RX7) (T := TX7) (N := 8) hx hb hts in_c_worthOf_7 hown hK hP 0 rfl rfl 6 (by decide) (hts (.fieldLink RX7 30 "LanternHouse$Shows" "size" "I") (by decide +kernel)) (fun _ h9 => h9) haSh_6 dX7_worthOf_6 ?_
  refine lv_icmp_ge (tgt := 36) hx hb dX7_worthOf_9 (by decide) (fun _ => ?_) (fun zc => absurd zc (by decide))
  refine lv_iload_n hx hb dX7_worthOf_36 rfl (lv_at hl 1 rfl) ?_
  have hP9 : va_P (dC, dI) vwCl [(aSh, .inr (7, fsaSh))] H := hP.sub [0] rfl
  have hD9 : va_D A [(aSh, .inr (7, fsaSh))] := hD.sub [0] (by decide) rfl
  exact W.iret (v := 0) hx hb hr (fun t ht hW => ⟨⟨0, (), rfl, rfl, ⟨fsaSh, hlaSh, (fun j hj => rfl), by rw [ht]; exact hP9, hD9⟩⟩, hS.F ht⟩) hS.2.2 dX7_worthOf_37

def zs_c_pbegin : List Cond := .code yX3_begin cX3_begin 3 none :: (([.fieldLink RX3 26 "LanternHouse$Plan" "set" "I", .fieldLink RX3 30 "LanternHouse$Plan" "worth" "I", .fieldLink RX3 33 "LanternHouse$Plan" "changes" "I", .fieldLink RX3 36 "LanternHouse$Plan" "missed" "I", .fieldLink RX3 39 "LanternHouse$Plan" "instead" "I"] : List Cond) ++ (wsX30 ++ []))
theorem gd_c_pbegin : (zs_c_pbegin).all goodWord = true := by decide +kernel
theorem in_c_pbegin_3 : ∀ w ∈ wsX30, w ∈ zs_c_pbegin := fun w h => List.mem_cons_of_mem _ (List.mem_append_right _ (List.mem_append_left _ h))
abbrev ws_c_pbegin (cB cI cJ cZ cQ : ClassId) (aPl : Nat) (fsaPl : List Value) : va_W := [(aPl, .inr (3, fsaPl))]
set_option maxHeartbeats 4000000 in
set_option maxRecDepth 100000 in
theorem c_pbegin (l : Launch) (dC : Nat → ClassId) (dI : Nat → Nat → Nat) (cB cI cJ cZ cQ : ClassId) (aPl : Nat) (fsaPl : List Value) (sz : Nat) (hlaPl : fsaPl.length = 8) : Met l yX3_begin zs_c_pbegin ({ frames := 0, cells := 0, slots := 0, locals := 0 } : Room) (zPc [.ref aPl, .int 0, .int 0] (dC, dI) (zTY cB cI cJ cZ cQ) (ws_c_pbegin cB cI cJ cZ cQ aPl fsaPl) sz) (va_Qv (fun (_ : Unit) => True) (fun (_ : Unit) (t : State) => ∃ (gsaPl : List Value), gsaPl.length = 8 ∧ (∀ j : Nat, ¬ j ∈ ([3, 4, 5, 6, 7] : List Nat) → gsaPl[j]? = fsaPl[j]?) ∧ gsaPl[3]? = some (.int 0) ∧ gsaPl[4]? = some (.int 0) ∧ gsaPl[5]? = some (.int 0) ∧ gsaPl[6]? = some (.int 0) ∧ gsaPl[7]? = some (.int 0) ∧ va_P (dC, dI) vwCl [(aPl, .inr (3, gsaPl))] t.heap ∧ va_D (va_A (ws_c_pbegin cB cI cJ cZ cQ aPl fsaPl) sz) [(aPl, .inr (3, gsaPl))]) (va_A (ws_c_pbegin cB cI cJ cZ cQ aPl fsaPl) sz)) 0 0 (va_A (ws_c_pbegin cB cI cJ cZ cQ aPl fsaPl) sz) := by
  refine Met.ofW (cc := cX3_begin) (maxL := 3) (ret := none) (by decide) rfl ?_
  intro p e s m args below meth c s₁ B hml hv
  obtain ⟨rfl, hsz, hP0, hK, hO, hD0⟩ := hv
  have hx := B.exec
  have hb := B.bytes
  have hr := B.returns
  have hts := atoms_spec (ws := zs_c_pbegin) B.pre
  have hown : s.vm.findClass RX3 = some m.cls := findClass_of_methodNamed B.named
  have hlocks := B.notSynchronized
  subst hsz
  have hD8 := hD0.self (sz := s.heap.size)
  generalize hAe : va_A (ws_c_pbegin cB cI cJ cZ cQ aPl fsaPl) s.heap.size = A at hD8 ⊢
  have hA : ∀ q : Nat, s.heap.size ≤ q → A q := fun q h => by rw [← hAe]; exact Or.inr h
  have hS : va_S A s.heap s.heap [] := va_S.rf
  have hP : va_P (dC, dI) vwCl [(aPl, .inr (3, fsaPl))] s.heap := hP0
  have hD : va_D A [(aPl, .inr (3, fsaPl))] := hD8
  have hl := lv_entry ([.ref aPl, .int 0, .int 0]) (n := 3) (Nat.le_of_ble_eq_true rfl)
  rw [lg_entry_eq]
  generalize (lg_sl ([.ref aPl, .int 0, .int 0]) ++ List.replicate (3 - (lg_sl ([.ref aPl, .int 0, .int 0])).length) Slot.unset).toArray = ls at hl ⊢
  have hl : lv_has ls 3 [(0, .ref aPl), (1, .int 0), (2, .int 0)] := hl
  clear hP0 hD8 hD0
  refine zH0 (fun H hP hS => ?_) hP hS
  refine lv_aload_n hx hb dX3_begin_0 rfl (lv_at hl 0 rfl) ?_
  refine lv_iload_n hx hb dX3_begin_1 rfl (lv_at hl 1 rfl) ?_
  refine va_put (D := (dC, dI)) (ci := 3) (v := .int 0) (ty := .int) (C := RX3) (T := TX3) (N := 8) hx hb hts in_c_pbegin_3 tyX3 tyX3_ok nmX3 hown hK hP hD hS 0 rfl rfl 3 (by decide) (hts (.fieldLink RX3 26 "LanternHouse$Plan" "set" "I") (by decide +kernel)) (fun _ h9 => h9) rfl (by decide +kernel) rfl rfl (by rw [hlaPl]; decide) dX3_begin_2 (fun H locs hP hD hS => ?_)
  have hP : va_P (dC, dI) vwCl [(aPl, .inr (3, (List.set fsaPl 3 (.int 0))))] H := hP
  have hD : va_D A [(aPl, .inr (3, (List.set fsaPl 3 (.int 0))))] := hD
  refine lv_aload_n hx hb dX3_begin_5 rfl (lv_at hl 0 rfl) ?_
  refine lv_iload_n hx hb dX3_begin_6 rfl (lv_at hl 2 rfl) ?_
  refine va_put (D := (dC, dI)) (ci := 3) (v := .int 0) (ty := .int) (C := RX3) (T := TX3) (N := 8) hx hb hts in_c_pbegin_3 tyX3 tyX3_ok nmX3 hown hK hP hD hS 0 rfl rfl 4 (by decide) (hts (.fieldLink RX3 30 "LanternHouse$Plan" "worth" "I") (by decide +kernel)) (fun _ h9 => h9) rfl (by decide +kernel) rfl rfl (by rw [(zset_len hlaPl)]; decide) dX3_begin_7 (fun H locs hP hD hS => ?_)
  have hP : va_P (dC, dI) vwCl [(aPl, .inr (3, (List.set (List.set fsaPl 3 (.int 0)) 4 (.int 0))))] H := hP
  have hD : va_D A [(aPl, .inr (3, (List.set (List.set fsaPl 3 (.int 0)) 4 (.int 0))))] := hD
  refine lv_aload_n hx hb dX3_begin_10 rfl (lv_at hl 0 rfl) ?_
  refine lv_iconst (v := 0) hx hb dX3_begin_11 (by decide) ?_
  refine va_put (D := (dC, dI)) (ci := 3) (v := .int 0) (ty := .int) (C := RX3) (T := TX3) (N := 8) hx hb hts in_c_pbegin_3 tyX3 tyX3_ok nmX3 hown hK hP hD hS 0 rfl rfl 5 (by decide) (hts (.fieldLink RX3 33 "LanternHouse$Plan" "changes" "I") (by decide +kernel)) (fun _ h9 => h9) rfl (by decide +kernel) rfl rfl (by rw [(zset_len (zset_len hlaPl))]; decide) dX3_begin_12 (fun H locs hP hD hS => ?_)
  have hP : va_P (dC, dI) vwCl [(aPl, .inr (3, (List.set (List.set (List.set fsaPl 3 (.int 0)) 4 (.int 0)) 5 (.int 0))))] H := hP
  have hD : va_D A [(aPl, .inr (3, (List.set (List.set (List.set fsaPl 3 (.int 0)) 4 (.int 0)) 5 (.int 0))))] := hD
  refine lv_aload_n hx hb dX3_begin_15 rfl (lv_at hl 0 rfl) ?_
  refine lv_iconst (v := 0) hx hb dX3_begin_16 (by decide) ?_
  refine va_put (D := (dC, dI)) (ci := 3) (v := .int 0) (ty := .int) (C := RX3) (T := TX3) (N := 8) hx hb hts in_c_pbegin_3 tyX3 tyX3_ok nmX3 hown hK hP hD hS 0 rfl rfl 6 (by decide) (hts (.fieldLink RX3 36 "LanternHouse$Plan" "missed" "I") (by decide +kernel)) (fun _ h9 => h9) rfl (by decide +kernel) rfl rfl (by rw [(zset_len (zset_len (zset_len hlaPl)))]; decide) dX3_begin_17 (fun H locs hP hD hS => ?_)
  have hP : va_P (dC, dI) vwCl [(aPl, .inr (3, (List.set (List.set (List.set (List.set fsaPl 3 (.int 0)) 4 (.int 0)) 5 (.int 0)) 6 (.int 0))))] H := hP
  have hD : va_D A [(aPl, .inr (3, (List.set (List.set (List.set (List.set fsaPl 3 (.int 0)) 4 (.int 0)) 5 (.int 0)) 6 (.int 0))))] := hD
  refine lv_aload_n hx hb dX3_begin_20 rfl (lv_at hl 0 rfl) ?_
  refine lv_iconst (v := 0) hx hb dX3_begin_21 (by decide) ?_
  refine va_put (D := (dC, dI)) (ci := 3) (v := .int 0) (ty := .int) (C := RX3) (T := TX3) (N := 8) hx hb hts in_c_pbegin_3 tyX3 tyX3_ok nmX3 hown hK hP hD hS 0 rfl rfl 7 (by decide) (hts (.fieldLink RX3 39 "LanternHouse$Plan" "instead" "I") (by decide +kernel)) (fun _ h9 => h9) rfl (by decide +kernel) rfl rfl (by rw [(zset_len (zset_len (zset_len (zset_len hlaPl))))]; decide) dX3_begin_22 (fun H locs hP hD hS => ?_)
  have hP : va_P (dC, dI) vwCl [(aPl, .inr (3, (List.set (List.set (List.set (List.set (List.set fsaPl 3 (.int 0)) 4 (.int 0)) 5 (.int 0)) 6 (.int 0)) 7 (.int 0))))] H := hP
  have hD : va_D A [(aPl, .inr (3, (List.set (List.set (List.set (List.set (List.set fsaPl 3 (.int 0)) 4 (.int 0)) 5 (.int 0)) 6 (.int 0)) 7 (.int 0))))] := hD
  have hP9 : va_P (dC, dI) vwCl [(aPl, .inr (3, (List.set (List.set (List.set (List.set (List.set fsaPl 3 (.int 0)) 4 (.int 0)) 5 (.int 0)) 6 (.int 0)) 7 (.int 0))))] H := hP.sub [0] rfl
  have hD9 : va_D A [(aPl, .inr (3, (List.set (List.set (List.set (List.set (List.set fsaPl 3 (.int 0)) 4 (.int 0)) 5 (.int 0)) 6 (.int 0)) 7 (.int 0))))] := hD.sub [0] (by decide) rfl
  exact W.vret hx hb hr (fun t ht hW => ⟨⟨(), rfl, trivial, ⟨(List.set (List.set (List.set (List.set (List.set fsaPl 3 (.int 0)) 4 (.int 0)) 5 (.int 0)) 6 (.int 0)) 7 (.int 0)), (zset_len (zset_len (zset_len (zset_len (zset_len hlaPl))))), (fun j hj => ((zfr (by decide) hj).trans ((zfr (by decide) hj).trans ((zfr (by decide) hj).trans ((zfr (by decide) hj).trans ((zfr (by decide) hj).trans rfl)))))), (zset_ne (by decide) (zset_ne (by decide) (zset_ne (by decide) (zset_ne (by decide) (zset_eq (by rw [hlaPl]; decide)))))), (zset_ne (by decide) (zset_ne (by decide) (zset_ne (by decide) (zset_eq (by rw [(zset_len hlaPl)]; decide))))), (zset_ne (by decide) (zset_ne (by decide) (zset_eq (by rw [(zset_len (zset_len hlaPl))]; decide)))), (zset_ne (by decide) (zset_eq (by rw [(zset_len (zset_len (zset_len hlaPl)))]; decide))), (zset_eq (by rw [(zset_len (zset_len (zset_len (zset_len hlaPl))))]; decide)), by rw [ht]; exact hP9, hD9⟩⟩, hS.F ht⟩) hS.2.2 dX3_begin_25

