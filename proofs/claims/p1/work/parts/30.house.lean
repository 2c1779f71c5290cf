def zs_h_isPlate : List Cond := .code yX11_isPlate cX11_isPlate 2 (some .boolean) :: (([.fieldLink RX11 42 "LanternHouse" "stock" "LLanternHouse$Stock;", .fieldLink RX11 287 "LanternHouse$Stock" "size" "I"] : List Cond) ++ (wsX110 ++ (wsX80 ++ [])))
theorem gd_h_isPlate : (zs_h_isPlate).all goodWord = true := by decide +kernel
theorem in_h_isPlate_11 : ∀ w ∈ wsX110, w ∈ zs_h_isPlate := fun w h => List.mem_cons_of_mem _ (List.mem_append_right _ (List.mem_append_left _ h))
theorem in_h_isPlate_8 : ∀ w ∈ wsX80, w ∈ zs_h_isPlate := fun w h => List.mem_cons_of_mem _ (List.mem_append_right _ (List.mem_append_right _ (List.mem_append_left _ h)))
abbrev ws_h_isPlate (cB cI cJ cZ cQ : ClassId) (aH aS : Nat) (iP : Int32) (fsaH : List Value) (fsaS : List Value) : va_W := [(aH, .inr (11, fsaH)), (aS, .inr (8, fsaS))]
set_option maxHeartbeats 4000000 in
set_option maxRecDepth 100000 in
theorem h_isPlate (l : Launch) (dC : Nat → ClassId) (dI : Nat → Nat → Nat) (cB cI cJ cZ cQ : ClassId) (aH aS : Nat) (iP : Int32) (fsaH : List Value) (fsaS : List Value) (sz : Nat) (hlaH : fsaH.length = 13) (haH_4 : fsaH[4]? = some (.ref aS)) (hlaS : fsaS.length = 3) (haS_2 : fsaS[2]? = some (.int 0)) : Met l yX11_isPlate zs_h_isPlate ({ frames := 0, cells := 0, slots := 0, locals := 0 } : Room) (zPc [.ref aH, .int iP] (dC, dI) (zTY cB cI cJ cZ cQ) (ws_h_isPlate cB cI cJ cZ cQ aH aS iP fsaH fsaS) sz) (va_Qi (fun (zr : Int32) (_ : Unit) => zr = 0) (fun (_ : Unit) (_ : State) => True) (va_A (ws_h_isPlate cB cI cJ cZ cQ aH aS iP fsaH fsaS) sz)) 0 0 (va_A (ws_h_isPlate cB cI cJ cZ cQ aH aS iP fsaH fsaS) sz) := by
  refine Met.ofW (cc := cX11_isPlate) (maxL := 2) (ret := (some .boolean)) (by decide) rfl ?_
  intro p e s m args below meth c s₁ B hml hv
  obtain ⟨rfl, hsz, hP0, hK, hO, hD0⟩ := hv
  have hx := B.exec
  have hb := B.bytes
  have hr := B.returns
  have hts := atoms_spec (ws := zs_h_isPlate) B.pre
  have hown : s.vm.findClass RX11 = some m.cls := findClass_of_methodNamed B.named
  have hlocks := B.notSynchronized
  subst hsz
  have hD8 := hD0.self (sz := s.heap.size)
  generalize hAe : va_A (ws_h_isPlate cB cI cJ cZ cQ aH aS iP fsaH fsaS) s.heap.size = A at hD8 ⊢
  have hA : ∀ q : Nat, s.heap.size ≤ q → A q := fun q h => by rw [← hAe]; exact Or.inr h
  have hS : va_S A s.heap s.heap [] := va_S.rf
  have hP : va_P (dC, dI) vwCl [(aH, .inr (11, fsaH)), (aS, .inr (8, fsaS))] s.heap := hP0
  have hD : va_D A [(aH, .inr (11, fsaH)), (aS, .inr (8, fsaS))] := hD8
  have hl := lv_entry ([.ref aH, .int iP]) (n := 2) (Nat.le_of_ble_eq_true rfl)
  rw [lg_entry_eq]
  generalize (lg_sl ([.ref aH, .int iP]) ++ List.replicate (2 - (lg_sl ([.ref aH, .int iP])).length) Slot.unset).toArray = ls at hl ⊢
  have hl : lv_has ls 2 [(0, .ref aH), (1, .int iP)] := hl
  clear hP0 hD8 hD0
  refine zH0 (fun H hP hS => ?_) hP hS
  refine lv_iload_n hx hb dX11_isPlate_0 rfl (lv_at hl 1 rfl) ?_
  refine lv_if_lt (tgt := 19) hx hb dX11_isPlate_1 (by decide) (fun c1 => ?_) (fun c1 => ?_)
  · skip
    refine lv_iconst (v := 0) hx hb dX11_isPlate_19 (by decide) ?_
    exact W.zret (v := 0) hx hb hr rfl (fun t ht hW => ⟨⟨0, (), rfl, rfl, trivial⟩, hS.F ht⟩) hS.2.2 dX11_isPlate_20
  · skip
    refine lv_iload_n hx hb dX11_isPlate_4 rfl (lv_at hl 1 rfl) ?_
    refine lv_aload_n hx hb dX11_isPlate_5 rfl (lv_at hl 0 rfl) ?_
    refine va_get (D := (dC, dI)) (ci := 11) (v := .ref aS) (C := RX11) (T := TX11) (N := 13) hx hb hts in_h_isPlate_11 hown hK hP 0 rfl rfl 4 (by decide) (hts (.fieldLink RX11 42 "LanternHouse" "stock" "LLanternHouse$Stock;") (by decide +kernel)) (fun _ h9 => h9) haH_4 dX11_isPlate_6 ?_
    refine va_get (D := (dC, dI)) (ci := 8) (v := .int 0) (C := RX8) (T := TX8) (N := 3) hx hb hts in_h_isPlate_8 hown hK hP 1 rfl rfl 2 (by decide) (hts (.fieldLink RX11 287 "LanternHouse$Stock" "size" "I") (by decide +kernel)) (fun _ h9 => h9) haS_2 dX11_isPlate_9 ?_
    refine lv_icmp_ge (tgt := 19) hx hb dX11_isPlate_12 (by decide) (fun c2 => ?_) (fun c2 => ?_)
    · skip
      refine lv_iconst (v := 0) hx hb dX11_isPlate_19 (by decide) ?_
      exact W.zret (v := 0) hx hb hr rfl (fun t ht hW => ⟨⟨0, (), rfl, rfl, trivial⟩, hS.F ht⟩) hS.2.2 dX11_isPlate_20
    · skip
      exfalso
      simp only [Int32.lt_iff_toInt_lt, Int32.le_iff_toInt_le, ← Int32.toInt_inj, zi_m1, zi_0, zi_1, zi_6, zi_8, zi_M, zi_16, zi_20, zi_23, zi_24, zi_27, zi_29, zi_30, zi_40, zi_500, zi_700, zi_1000] at c1 c2 <;> omega

def zs_h_isHour : List Cond := .code yX11_isHour cX11_isHour 2 (some .boolean) :: (([] : List Cond) ++ [])
theorem gd_h_isHour : (zs_h_isHour).all goodWord = true := by decide +kernel
abbrev ws_h_isHour (cB cI cJ cZ cQ : ClassId) (aH : Nat) (iHr : Int32) (fsaH : List Value) : va_W := [(aH, .inr (11, fsaH))]
set_option maxHeartbeats 4000000 in
set_option maxRecDepth 100000 in
theorem h_isHour (l : Launch) (dC : Nat → ClassId) (dI : Nat → Nat → Nat) (cB cI cJ cZ cQ : ClassId) (aH : Nat) (iHr : Int32) (fsaH : List Value) (sz : Nat) (hlaH : fsaH.length = 13) : Met l yX11_isHour zs_h_isHour ({ frames := 0, cells := 0, slots := 0, locals := 0 } : Room) (zPc [.ref aH, .int iHr] (dC, dI) (zTY cB cI cJ cZ cQ) (ws_h_isHour cB cI cJ cZ cQ aH iHr fsaH) sz) (va_Qi (fun (zr : Int32) (_ : Unit) => (zr = 1 ∧ ¬ iHr < 0 ∧ ¬ 700 < iHr) ∨ (zr = 0 ∧ iHr < 0) ∨ (zr = 0 ∧ 700 < iHr)) (fun (_ : Unit) (t : State) => ∃ (gsaH : List Value), gsaH.length = 13 ∧ (∀ j : Nat, ¬ j ∈ ([] : List Nat) → gsaH[j]? = fsaH[j]?) ∧ va_P (dC, dI) vwCl [(aH, .inr (11, gsaH))] t.heap ∧ va_D (va_A (ws_h_isHour cB cI cJ cZ cQ aH iHr fsaH) sz) [(aH, .inr (11, gsaH))]) (va_A (ws_h_isHour cB cI cJ cZ cQ aH iHr fsaH) sz)) 0 0 (va_A (ws_h_isHour cB cI cJ cZ cQ aH iHr fsaH) sz) := by
  refine Met.ofW (cc := cX11_isHour) (maxL := 2) (ret := (some .boolean)) (by decide) rfl ?_
  intro p e s m args below meth c s₁ B hml hv
  obtain ⟨rfl, hsz, hP0, hK, hO, hD0⟩ := hv
  have hx := B.exec
  have hb := B.bytes
  have hr := B.returns
  have hts := atoms_spec (ws := zs_h_isHour) B.pre
  have hown : s.vm.findClass RX11 = some m.cls := findClass_of_methodNamed B.named
  have hlocks := B.notSynchronized
  subst hsz
  have hD8 := hD0.self (sz := s.heap.size)
  generalize hAe : va_A (ws_h_isHour cB cI cJ cZ cQ aH iHr fsaH) s.heap.size = A at hD8 ⊢
  have hA : ∀ q : Nat, s.heap.size ≤ q → A q := fun q h => by rw [← hAe]; exact Or.inr h
  have hS : va_S A s.heap s.heap [] := va_S.rf
  have hP : va_P (dC, dI) vwCl [(aH, .inr (11, fsaH))] s.heap := hP0
  have hD : va_D A [(aH, .inr (11, fsaH))] := hD8
  have hl := lv_entry ([.ref aH, .int iHr]) (n := 2) (Nat.le_of_ble_eq_true rfl)
  rw [lg_entry_eq]
  generalize (lg_sl ([.ref aH, .int iHr]) ++ List.replicate (2 - (lg_sl ([.ref aH, .int iHr])).length) Slot.unset).toArray = ls at hl ⊢
  have hl : lv_has ls 2 [(0, .ref aH), (1, .int iHr)] := hl
  clear hP0 hD8 hD0
  refine zH0 (fun H hP hS => ?_) hP hS
  refine lv_iload_n hx hb dX11_isHour_0 rfl (lv_at hl 1 rfl) ?_
  refine lv_if_lt (tgt := 15) hx hb dX11_isHour_1 (by decide) (fun c1 => ?_) (fun c1 => ?_)
  · skip
    refine lv_iconst (v := 0) hx hb dX11_isHour_15 (by decide) ?_
    have hP9 : va_P (dC, dI) vwCl [(aH, .inr (11, fsaH))] H := hP.sub [0] rfl
    have hD9 : va_D A [(aH, .inr (11, fsaH))] := hD.sub [0] (by decide) rfl
    exact W.zret (v := 0) hx hb hr rfl (fun t ht hW => ⟨⟨0, (), rfl, (Or.inr (Or.inl ⟨rfl, (by simp only [Int32.lt_iff_toInt_lt, Int32.le_iff_toInt_le, ← Int32.toInt_inj, zi_m1, zi_0, zi_1, zi_6, zi_8, zi_M, zi_16, zi_20, zi_23, zi_24, zi_27, zi_29, zi_30, zi_40, zi_500, zi_700, zi_1000] at c1 ⊢<;> omega)⟩)), ⟨fsaH, hlaH, (fun j hj => rfl), by rw [ht]; exact hP9, hD9⟩⟩, hS.F ht⟩) hS.2.2 dX11_isHour_16
  · skip
    refine lv_iload_n hx hb dX11_isHour_4 rfl (lv_at hl 1 rfl) ?_
    refine lv_sipush (v := 700) hx hb dX11_isHour_5 (by decide) ?_
    refine lv_icmp_gt (tgt := 15) hx hb dX11_isHour_8 (by decide) (fun c2 => ?_) (fun c2 => ?_)
    · skip
      refine lv_iconst (v := 0) hx hb dX11_isHour_15 (by decide) ?_
      have hP9 : va_P (dC, dI) vwCl [(aH, .inr (11, fsaH))] H := hP.sub [0] rfl
      have hD9 : va_D A [(aH, .inr (11, fsaH))] := hD.sub [0] (by decide) rfl
      exact W.zret (v := 0) hx hb hr rfl (fun t ht hW => ⟨⟨0, (), rfl, (Or.inr (Or.inr ⟨rfl, (by simp only [Int32.lt_iff_toInt_lt, Int32.le_iff_toInt_le, ← Int32.toInt_inj, zi_m1, zi_0, zi_1, zi_6, zi_8, zi_M, zi_16, zi_20, zi_23, zi_24, zi_27, zi_29, zi_30, zi_40, zi_500, zi_700, zi_1000] at c1 c2 ⊢<;> omega)⟩)), ⟨fsaH, hlaH, (fun j hj => rfl), by rw [ht]; exact hP9, hD9⟩⟩, hS.F ht⟩) hS.2.2 dX11_isHour_16
    · skip
      refine lv_iconst (v := 1) hx hb dX11_isHour_11 (by decide) ?_
      refine lv_goto (tgt := 16) hx hb dX11_isHour_12 (by decide) ?_
      have hP9 : va_P (dC, dI) vwCl [(aH, .inr (11, fsaH))] H := hP.sub [0] rfl
      have hD9 : va_D A [(aH, .inr (11, fsaH))] := hD.sub [0] (by decide) rfl
      exact W.zret (v := 1) hx hb hr rfl (fun t ht hW => ⟨⟨1, (), rfl, (Or.inl ⟨rfl, (by simp only [Int32.lt_iff_toInt_lt, Int32.le_iff_toInt_le, ← Int32.toInt_inj, zi_m1, zi_0, zi_1, zi_6, zi_8, zi_M, zi_16, zi_20, zi_23, zi_24, zi_27, zi_29, zi_30, zi_40, zi_500, zi_700, zi_1000] at c1 c2 ⊢<;> omega), (by simp only [Int32.lt_iff_toInt_lt, Int32.le_iff_toInt_le, ← Int32.toInt_inj, zi_m1, zi_0, zi_1, zi_6, zi_8, zi_M, zi_16, zi_20, zi_23, zi_24, zi_27, zi_29, zi_30, zi_40, zi_500, zi_700, zi_1000] at c1 c2 ⊢<;> omega)⟩), ⟨fsaH, hlaH, (fun j hj => rfl), by rw [ht]; exact hP9, hD9⟩⟩, hS.F ht⟩) hS.2.2 dX11_isHour_16

def zs_h_isKept : List Cond := .code yX11_isKept cX11_isKept 2 (some .boolean) :: (([.fieldLink RX11 95 "LanternHouse" "isMade" "Z"] : List Cond) ++ (wsX110 ++ []))
theorem gd_h_isKept : (zs_h_isKept).all goodWord = true := by decide +kernel
theorem in_h_isKept_11 : ∀ w ∈ wsX110, w ∈ zs_h_isKept := fun w h => List.mem_cons_of_mem _ (List.mem_append_right _ (List.mem_append_left _ h))
abbrev ws_h_isKept (cB cI cJ cZ cQ : ClassId) (aH : Nat) (iX : Int32) (fsaH : List Value) : va_W := [(aH, .inr (11, fsaH))]
set_option maxHeartbeats 4000000 in
set_option maxRecDepth 100000 in
theorem h_isKept (l : Launch) (dC : Nat → ClassId) (dI : Nat → Nat → Nat) (cB cI cJ cZ cQ : ClassId) (aH : Nat) (iX : Int32) (fsaH : List Value) (sz : Nat) (hlaH : fsaH.length = 13) (haH_12 : fsaH[12]? = some (.int 0)) : Met l yX11_isKept zs_h_isKept ({ frames := 0, cells := 0, slots := 0, locals := 0 } : Room) (zPc [.ref aH, .int iX] (dC, dI) (zTY cB cI cJ cZ cQ) (ws_h_isKept cB cI cJ cZ cQ aH iX fsaH) sz) (va_Qi (fun (zr : Int32) (_ : Unit) => zr = 0) (fun (_ : Unit) (_ : State) => True) (va_A (ws_h_isKept cB cI cJ cZ cQ aH iX fsaH) sz)) 0 0 (va_A (ws_h_isKept cB cI cJ cZ cQ aH iX fsaH) sz) := by
  refine Met.ofW (cc := cX11_isKept) (maxL := 2) (ret := (some .boolean)) (by decide) rfl ?_
  intro p e s m args below meth c s₁ B hml hv
  obtain ⟨rfl, hsz, hP0, hK, hO, hD0⟩ := hv
  have hx := B.exec
  have hb := B.bytes
  have hr := B.returns
  have hts := atoms_spec (ws := zs_h_isKept) B.pre
  have hown : s.vm.findClass RX11 = some m.cls := findClass_of_methodNamed B.named
  have hlocks := B.notSynchronized
  subst hsz
  have hD8 := hD0.self (sz := s.heap.size)
  generalize hAe : va_A (ws_h_isKept cB cI cJ cZ cQ aH iX fsaH) s.heap.size = A at hD8 ⊢
  have hA : ∀ q : Nat, s.heap.size ≤ q → A q := fun q h => by rw [← hAe]; exact Or.inr h
  have hS : va_S A s.heap s.heap [] := va_S.rf
  have hP : va_P (dC, dI) vwCl [(aH, .inr (11, fsaH))] s.heap := hP0
  have hD : va_D A [(aH, .inr (11, fsaH))] := hD8
  have hl := lv_entry ([.ref aH, .int iX]) (n := 2) (Nat.le_of_ble_eq_true rfl)
  rw [lg_entry_eq]
  generalize (lg_sl ([.ref aH, .int iX]) ++ List.replicate (2 - (lg_sl ([.ref aH, .int iX])).length) Slot.unset).toArray = ls at hl ⊢
  have hl : lv_has ls 2 [(0, .ref aH), (1, .int iX)] := hl
  clear hP0 hD8 hD0
  refine zH0 (fun H hP hS => ?_) hP hS
  refine lv_aload_n hx hb dX11_isKept_0 rfl (lv_at hl 0 rfl) ?_
  refine va_get (D := (dC, dI)) (ci := 11) (v := .int 0) (C := RX11) (T := TX11) (N := 13) hx hb hts in_h_isKept_11 hown hK hP 0 rfl rfl 12 (by decide) (hts (.fieldLink RX11 95 "LanternHouse" "isMade" "Z") (by decide +kernel)) (fun _ h9 => h9) haH_12 dX11_isKept_1 ?_
  refine lv_if_eq (tgt := 33) hx hb dX11_isKept_4 (by decide) (fun _ => ?_) (fun zc => absurd zc (by decide))
  refine lv_iconst (v := 0) hx hb dX11_isKept_33 (by decide) ?_
  exact W.zret (v := 0) hx hb hr rfl (fun t ht hW => ⟨⟨0, (), rfl, rfl, trivial⟩, hS.F ht⟩) hS.2.2 dX11_isKept_34

def zs_h_changes : List Cond := .code yX11_changes cX11_changes 2 (some .int) :: (([] : List Cond) ++ [])
theorem gd_h_changes : (zs_h_changes).all goodWord = true := by decide +kernel
abbrev ws_h_changes (cB cI cJ cZ cQ : ClassId) : va_W := []
set_option maxHeartbeats 4000000 in
set_option maxRecDepth 100000 in
theorem h_changes (l : Launch) (dC : Nat → ClassId) (dI : Nat → Nat → Nat) (cB cI cJ cZ cQ : ClassId) (sz : Nat) : Met l yX11_changes zs_h_changes ({ frames := 0, cells := 0, slots := 0, locals := 0 } : Room) (zPc [.int 0, .int (-1)] (dC, dI) (zTY cB cI cJ cZ cQ) (ws_h_changes cB cI cJ cZ cQ) sz) (va_Qi (fun (zr : Int32) (_ : Unit) => zr = 0) (fun (_ : Unit) (_ : State) => True) (va_A (ws_h_changes cB cI cJ cZ cQ) sz)) 0 0 (va_A (ws_h_changes cB cI cJ cZ cQ) sz) := by
  refine Met.ofW (cc := cX11_changes) (maxL := 2) (ret := (some .int)) (by decide) rfl ?_
  intro p e s m args below meth c s₁ B hml hv
  obtain ⟨rfl, hsz, hP0, hK, hO, hD0⟩ := hv
  have hx := B.exec
  have hb := B.bytes
  have hr := B.returns
  have hts := atoms_spec (ws := zs_h_changes) B.pre
  have hown : s.vm.findClass RX11 = some m.cls := findClass_of_methodNamed B.named
  have hlocks := B.notSynchronized
  subst hsz
  have hD8 := hD0.self (sz := s.heap.size)
  generalize hAe : va_A (ws_h_changes cB cI cJ cZ cQ) s.heap.size = A at hD8 ⊢
  have hA : ∀ q : Nat, s.heap.size ≤ q → A q := fun q h => by rw [← hAe]; exact Or.inr h
  have hS : va_S A s.heap s.heap [] := va_S.rf
  have hP : va_P (dC, dI) vwCl [] s.heap := hP0
  have hD : va_D A [] := hD8
  have hl := lv_entry ([.int 0, .int (-1)]) (n := 2) (Nat.le_of_ble_eq_true rfl)
  rw [lg_entry_eq]
  generalize (lg_sl ([.int 0, .int (-1)]) ++ List.replicate (2 - (lg_sl ([.int 0, .int (-1)])).length) Slot.unset).toArray = ls at hl ⊢
  have hl : lv_has ls 2 [(0, .int 0), (1, .int (-1))] := hl
  clear hP0 hD8 hD0
  refine zH0 (fun H hP hS => ?_) hP hS
  refine lv_iload_n hx hb dX11_changes_0 rfl (lv_at hl 1 rfl) ?_
  refine lv_iconst (v := (-1)) hx hb dX11_changes_1 (by decide) ?_
  refine lv_icmp_ne (tgt := 9) hx hb dX11_changes_2 (by decide) (fun zc => absurd zc (by decide)) (fun _ => ?_)
  refine lv_iconst (v := 0) hx hb dX11_changes_5 (by decide) ?_
  refine lv_goto (tgt := 15) hx hb dX11_changes_6 (by decide) ?_
  exact W.iret (v := 0) hx hb hr (fun t ht hW => ⟨⟨0, (), rfl, rfl, trivial⟩, hS.F ht⟩) hS.2.2 dX11_changes_15

def zs_h_settle : List Cond := .code yX11_settle cX11_settle 5 none :: (([.fieldLink RX11 70 "LanternHouse" "keeper" "LLanternHouse$Keeper;", .fieldLink RX11 88 "LanternHouse" "made" "LLanternHouse$Plan;", .fieldLink RX11 194 "LanternHouse$Plan" "changes" "I", .fieldLink RX11 61 "LanternHouse" "shows" "LLanternHouse$Shows;", .methodLink RX11 177 yX1_prepare, .instanceMethod yX1_prepare, .selects RX1 yX1_prepare yX1_prepare, .initialized RX1, .methodLink RX11 180 yX1_keep, .instanceMethod yX1_keep, .selects RX1 yX1_keep yX1_keep, .methodLink RX11 303 yX11_changes, .static yX11_changes, .initialized RX11, .methodLink RX11 174 yX7_all, .instanceMethod yX7_all, .selects RX7 yX7_all yX7_all, .initialized RX7] : List Cond) ++ (zs_c_prepare ++ (zs_c_keep ++ (zs_h_changes ++ (zs_c_all ++ (wsX110 ++ (wsX30 ++ [])))))))
theorem gd_h_settle : (zs_h_settle).all goodWord = true := by decide +kernel
theorem in_h_settle_11 : ∀ w ∈ wsX110, w ∈ zs_h_settle := fun w h => List.mem_cons_of_mem _ (List.mem_append_right _ (List.mem_append_right _ (List.mem_append_right _ (List.mem_append_right _ (List.mem_append_right _ (List.mem_append_left _ h))))))
theorem in_h_settle_3 : ∀ w ∈ wsX30, w ∈ zs_h_settle := fun w h => List.mem_cons_of_mem _ (List.mem_append_right _ (List.mem_append_right _ (List.mem_append_right _ (List.mem_append_right _ (List.mem_append_right _ (List.mem_append_right _ (List.mem_append_left _ h)))))))
theorem g_h_settle_c_prepare_177 : GoodIn zs_h_settle (wsV RX11 177 RX1 yX1_prepare zs_c_prepare) := goodIn_app (goodIn_of _ (by decide +kernel)) (goodIn_sub (fun w h => List.mem_cons_of_mem _ (List.mem_append_right _ (List.mem_append_left _ h))) gd_c_prepare)
theorem g_h_settle_c_keep_180 : GoodIn zs_h_settle (wsV RX11 180 RX1 yX1_keep zs_c_keep) := goodIn_app (goodIn_of _ (by decide +kernel)) (goodIn_sub (fun w h => List.mem_cons_of_mem _ (List.mem_append_right _ (List.mem_append_right _ (List.mem_append_left _ h)))) gd_c_keep)
theorem g_h_settle_h_changes_303 : GoodIn zs_h_settle (va_wsS RX11 303 yX11_changes zs_h_changes) := goodIn_app (goodIn_of _ (by decide +kernel)) (goodIn_sub (fun w h => List.mem_cons_of_mem _ (List.mem_append_right _ (List.mem_append_right _ (List.mem_append_right _ (List.mem_append_left _ h))))) gd_h_changes)
theorem g_h_settle_c_all_174 : GoodIn zs_h_settle (wsV RX11 174 RX7 yX7_all zs_c_all) := goodIn_app (goodIn_of _ (by decide +kernel)) (goodIn_sub (fun w h => List.mem_cons_of_mem _ (List.mem_append_right _ (List.mem_append_right _ (List.mem_append_right _ (List.mem_append_right _ (List.mem_append_left _ h)))))) gd_c_all)
abbrev ws_h_settle (cB cI cJ cZ cQ : ClassId) (aH aSh aK aRa qId qA q8 qFr aPl aF : Nat) (fId : Nat → Int64) (fQ : Nat → Option Nat) (f8 : Nat → Int32) (fFr : Nat → Int32) (fsaH : List Value) (fsaSh : List Value) (fsaK : List Value) (fsaRa : List Value) (fsaPl : List Value) : va_W := [(aH, .inr (11, fsaH)), (aSh, .inr (7, fsaSh)), (aK, .inr (1, fsaK)), (aRa, .inr (4, fsaRa)), (qId, .inl (cJ, 16, .inr (.inl fId))), (qA, .inl (cQ, 9, .inr (.inr (.inr (.inr fQ))))), (q8, .inl (cI, 6, .inl f8)), (qFr, .inl (cI, 20, .inl fFr)), (aPl, .inr (3, fsaPl))]
set_option maxHeartbeats 4000000 in
set_option maxRecDepth 100000 in
theorem h_settle (l : Launch) (dC : Nat → ClassId) (dI : Nat → Nat → Nat) (cB cI cJ cZ cQ : ClassId) (aH aSh aK aRa qId qA q8 qFr aPl aF : Nat) (fId : Nat → Int64) (fQ : Nat → Option Nat) (f8 : Nat → Int32) (fFr : Nat → Int32) (fsaH : List Value) (fsaSh : List Value) (fsaK : List Value) (fsaRa : List Value) (fsaPl : List Value) (sz : Nat) (hQ8 : fQ (8 : Int32).toNatClampNeg = (some q8)) (hlaH : fsaH.length = 13) (haH_6 : fsaH[6]? = some (.ref aSh)) (haH_7 : fsaH[7]? = some (.ref aK)) (haH_10 : fsaH[10]? = some (.ref aPl)) (hlaSh : fsaSh.length = 8) (haSh_6 : fsaSh[6]? = some (.int 0)) (hlaK : fsaK.length = 8) (haK_0 : fsaK[0]? = some (.ref aSh)) (haK_2 : fsaK[2]? = some (.ref aF)) (haK_3 : fsaK[3]? = some (.ref aRa)) (haK_4 : fsaK[4]? = some (.ref qA)) (haK_6 : fsaK[6]? = some (.ref qFr)) (hlaRa : fsaRa.length = 8) (haRa_4 : fsaRa[4]? = some (.ref qId)) (haRa_7 : fsaRa[7]? = some (.int 0)) (hlaPl : fsaPl.length = 8) : Met l yX11_settle zs_h_settle ({ frames := 3, cells := 0, slots := 0, locals := 75 } : Room) (zPc [.ref aH, .int 0, .int (-1)] (dC, dI) (zTY cB cI cJ cZ cQ) (ws_h_settle cB cI cJ cZ cQ aH aSh aK aRa qId qA q8 qFr aPl aF fId fQ f8 fFr fsaH fsaSh fsaK fsaRa fsaPl) sz) (va_Qv (fun (_ : Unit) => True) (fun (_ : Unit) (t : State) => ∃ (gsaH : List Value), ∃ (gsaPl : List Value), gsaH.length = 13 ∧ (∀ j : Nat, ¬ j ∈ ([] : List Nat) → gsaH[j]? = fsaH[j]?) ∧ gsaPl.length = 8 ∧ (∀ j : Nat, ¬ j ∈ ([3, 4, 5, 6, 7] : List Nat) → gsaPl[j]? = fsaPl[j]?) ∧ gsaPl[4]? = some (.int 0) ∧ va_P (dC, dI) vwCl [(aH, .inr (11, gsaH)), (aPl, .inr (3, gsaPl))] t.heap ∧ va_D (va_A (ws_h_settle cB cI cJ cZ cQ aH aSh aK aRa qId qA q8 qFr aPl aF fId fQ f8 fFr fsaH fsaSh fsaK fsaRa fsaPl) sz) [(aH, .inr (11, gsaH)), (aPl, .inr (3, gsaPl))]) (va_A (ws_h_settle cB cI cJ cZ cQ aH aSh aK aRa qId qA q8 qFr aPl aF fId fQ f8 fFr fsaH fsaSh fsaK fsaRa fsaPl) sz)) 0 0 (va_A (ws_h_settle cB cI cJ cZ cQ aH aSh aK aRa qId qA q8 qFr aPl aF fId fQ f8 fFr fsaH fsaSh fsaK fsaRa fsaPl) sz) := by
  refine Met.ofW (cc := cX11_settle) (maxL := 5) (ret := none) (by decide) rfl ?_
  intro p e s m args below meth c s₁ B hml hv
  obtain ⟨rfl, hsz, hP0, hK, hO, hD0⟩ := hv
  have hx := B.exec
  have hb := B.bytes
  have hr := B.returns
  have hts := atoms_spec (ws := zs_h_settle) B.pre
  have hown : s.vm.findClass RX11 = some m.cls := findClass_of_methodNamed B.named
  have hlocks := B.notSynchronized
  subst hsz
  have hD8 := hD0.self (sz := s.heap.size)
  generalize hAe : va_A (ws_h_settle cB cI cJ cZ cQ aH aSh aK aRa qId qA q8 qFr aPl aF fId fQ f8 fFr fsaH fsaSh fsaK fsaRa fsaPl) s.heap.size = A at hD8 ⊢
  have hA : ∀ q : Nat, s.heap.size ≤ q → A q := fun q h => by rw [← hAe]; exact Or.inr h
  have hS : va_S A s.heap s.heap [] := va_S.rf
  have hP : va_P (dC, dI) vwCl [(aH, .inr (11, fsaH)), (aSh, .inr (7, fsaSh)), (aK, .inr (1, fsaK)), (aRa, .inr (4, fsaRa)), (qId, .inl (cJ, 16, .inr (.inl fId))), (qA, .inl (cQ, 9, .inr (.inr (.inr (.inr fQ))))), (q8, .inl (cI, 6, .inl f8)), (qFr, .inl (cI, 20, .inl fFr)), (aPl, .inr (3, fsaPl))] s.heap := hP0
  have hD : va_D A [(aH, .inr (11, fsaH)), (aSh, .inr (7, fsaSh)), (aK, .inr (1, fsaK)), (aRa, .inr (4, fsaRa)), (qId, .inl (cJ, 16, .inr (.inl fId))), (qA, .inl (cQ, 9, .inr (.inr (.inr (.inr fQ))))), (q8, .inl (cI, 6, .inl f8)), (qFr, .inl (cI, 20, .inl fFr)), (aPl, .inr (3, fsaPl))] := hD8
  have hl := lv_entry ([.ref aH, .int 0, .int (-1)]) (n := 5) (Nat.le_of_ble_eq_true rfl)
  rw [lg_entry_eq]
  generalize (lg_sl ([.ref aH, .int 0, .int (-1)]) ++ List.replicate (5 - (lg_sl ([.ref aH, .int 0, .int (-1)])).length) Slot.unset).toArray = ls at hl ⊢
  have hl : lv_has ls 5 [(0, .ref aH), (1, .int 0), (2, .int (-1))] := hl
  clear hP0 hD8 hD0
  refine zH0 (fun H hP hS => ?_) hP hS
  refine lv_aload_n hx hb dX11_settle_0 rfl (lv_at hl 0 rfl) ?_
  refine va_get (D := (dC, dI)) (ci := 11) (v := .ref aK) (C := RX11) (T := TX11) (N := 13) hx hb hts in_h_settle_11 hown hK hP 0 rfl rfl 7 (by decide) (hts (.fieldLink RX11 70 "LanternHouse" "keeper" "LLanternHouse$Keeper;") (by decide +kernel)) (fun _ h9 => h9) haH_7 dX11_settle_1 ?_
  refine lv_iload_n hx hb dX11_settle_4 rfl (lv_at hl 1 rfl) ?_
  have hPc : va_P (dC, dI) vwCl (ws_c_prepare cB cI cJ cZ cQ aK aRa qId qA q8 aSh aF fId fQ f8 fsaK fsaRa fsaSh) H := hP.sub [2, 3, 4, 5, 6, 1] rfl
  have hDc := hD.sub (ws' := (ws_c_prepare cB cI cJ cZ cQ aK aRa qId qA q8 aSh aF fId fQ f8 fsaK fsaRa fsaSh)) [2, 3, 4, 5, 6, 1] (by decide) rfl
  have hFc := va_free (wc := (ws_c_prepare cB cI cJ cZ cQ aK aRa qId qA q8 aSh aF fId fQ f8 fsaK fsaRa fsaSh)) hD hS hA [2, 3, 4, 5, 6, 1] rfl
  refine va_callv (va_runV (As := [.int 0]) (rest := []) ⟨hx, hb, hml, hown, hts⟩ (c_prepare l dC dI cB cI cJ cZ cQ aK aRa qId qA q8 aSh aF fId fQ f8 fsaK fsaRa fsaSh H.size hQ8 hlaK haK_0 haK_2 haK_3 haK_4 hlaRa haRa_4 haRa_7 hlaSh haSh_6) (cwV 1 hts g_h_settle_c_prepare_177 rfl rfl rfl (by decide +kernel) ⟨Nat.le_of_ble_eq_true rfl, Nat.le_of_ble_eq_true rfl⟩) ⟨zFB, va_recv hK hP (ci := 1) (q0 := 2) rfl rfl, fun U hU hW => zUp hU hW hPc hK hO hDc⟩ rfl rfl hl.1 rfl (lv_room (Nat.le_of_ble_eq_true rfl)) dX11_settle_5 ⟨Nat.le_of_ble_eq_true rfl, Nat.le_of_ble_eq_true rfl⟩) hS (fun q _ h => hFc q h) hFc (fun u t H1 locs ht hvm hw2 hB hz1 hk1 hS => ?_)
  obtain ⟨gs3, gs4, hgl5, hgf6, hgl7, hgf8, hP1, hD1⟩ := hB
  rw [ht] at hP1
  obtain ⟨hP, hD⟩ := va_join (wr := [(aH, .inr (11, fsaH)), (qFr, .inl (cI, 20, .inl fFr)), (aPl, .inr (3, fsaPl))]) (w1 := [(aK, .inr (1, gs3)), (aSh, .inr (7, gs4))]) hP hD [2, 3, 4, 5, 6, 1] [0, 7, 8] rfl rfl (by decide) (by decide) hk1 hFc hP1 hD1
  generalize H1 = H at hP hS ⊢
  have hP : va_P (dC, dI) vwCl [(aH, .inr (11, fsaH)), (qFr, .inl (cI, 20, .inl fFr)), (aPl, .inr (3, fsaPl)), (aK, .inr (1, gs3)), (aSh, .inr (7, gs4))] H := hP
  have hD : va_D A [(aH, .inr (11, fsaH)), (qFr, .inl (cI, 20, .inl fFr)), (aPl, .inr (3, fsaPl)), (aK, .inr (1, gs3)), (aSh, .inr (7, gs4))] := hD
  refine lv_aload_n hx hb dX11_settle_8 rfl (lv_at hl 0 rfl) ?_
  refine va_get (D := (dC, dI)) (ci := 11) (v := .ref aK) (C := RX11) (T := TX11) (N := 13) hx hb hts in_h_settle_11 hown hK hP 0 rfl rfl 7 (by decide) (hts (.fieldLink RX11 70 "LanternHouse" "keeper" "LLanternHouse$Keeper;") (by decide +kernel)) (fun _ h9 => h9) haH_7 dX11_settle_9 ?_
  refine lv_iconst (v := 0) hx hb dX11_settle_12 (by decide) ?_
  refine lv_aload_n hx hb dX11_settle_13 rfl (lv_at hl 0 rfl) ?_
  refine va_get (D := (dC, dI)) (ci := 11) (v := .ref aPl) (C := RX11) (T := TX11) (N := 13) hx hb hts in_h_settle_11 hown hK hP 0 rfl rfl 10 (by decide) (hts (.fieldLink RX11 88 "LanternHouse" "made" "LLanternHouse$Plan;") (by decide +kernel)) (fun _ h9 => h9) haH_10 dX11_settle_14 ?_
  have hPc : va_P (dC, dI) vwCl (ws_c_keep cB cI cJ cZ cQ aK aSh qFr aPl fFr gs3 gs4 fsaPl) H := hP.sub [3, 4, 1, 2] rfl
  have hDc := hD.sub (ws' := (ws_c_keep cB cI cJ cZ cQ aK aSh qFr aPl fFr gs3 gs4 fsaPl)) [3, 4, 1, 2] (by decide) rfl
  have hFc := va_free (wc := (ws_c_keep cB cI cJ cZ cQ aK aSh qFr aPl fFr gs3 gs4 fsaPl)) hD hS hA [3, 4, 1, 2] rfl
  refine va_calli (va_runV (As := [.int 0, .ref aPl]) (rest := []) ⟨hx, hb, hml, hown, hts⟩ (c_keep l dC dI cB cI cJ cZ cQ aK aSh qFr aPl fFr gs3 gs4 fsaPl H.size hgl5 ((hgf6 0 (by decide)).trans haK_0) ((hgf6 6 (by decide)).trans haK_6) hgl7 ((hgf8 6 (by decide)).trans haSh_6) hlaPl) (cwV 2 hts g_h_settle_c_keep_180 rfl rfl rfl (by decide +kernel) ⟨Nat.le_of_ble_eq_true rfl, Nat.le_of_ble_eq_true rfl⟩) ⟨zFB, va_recv hK hP (ci := 1) (q0 := 3) rfl rfl, fun U hU hW => zUp hU hW hPc hK hO hDc⟩ rfl rfl hl.1 rfl (lv_room (Nat.le_of_ble_eq_true rfl)) dX11_settle_17 ⟨Nat.le_of_ble_eq_true rfl, Nat.le_of_ble_eq_true rfl⟩) hS (fun q _ h => hFc q h) hFc (fun r9 u t H1 locs ht hvm hw10 hB hz1 hk1 hS => ?_)
  obtain ⟨gs11, gs12, hgl13, hgf14, hgl15, hgf16, hgk17, hgk18, hgk19, hgk20, hgk21, hP1, hD1⟩ := hB
  rw [ht] at hP1
  obtain ⟨hP, hD⟩ := va_join (wr := [(aH, .inr (11, fsaH))]) (w1 := [(aSh, .inr (7, gs11)), (aPl, .inr (3, gs12))]) hP hD [3, 4, 1, 2] [0] rfl rfl (by decide) (by decide) hk1 hFc hP1 hD1
  generalize H1 = H at hP hS ⊢
  have hP : va_P (dC, dI) vwCl [(aH, .inr (11, fsaH)), (aSh, .inr (7, gs11)), (aPl, .inr (3, gs12))] H := hP
  have hD : va_D A [(aH, .inr (11, fsaH)), (aSh, .inr (7, gs11)), (aPl, .inr (3, gs12))] := hD
  obtain rfl : r9 = 1 := hw10
  refine lv_pop hx hb dX11_settle_20 rfl ?_
  refine lv_aload_n hx hb dX11_settle_21 rfl (lv_at hl 0 rfl) ?_
  refine va_get (D := (dC, dI)) (ci := 11) (v := .ref aPl) (C := RX11) (T := TX11) (N := 13) hx hb hts in_h_settle_11 hown hK hP 0 rfl rfl 10 (by decide) (hts (.fieldLink RX11 88 "LanternHouse" "made" "LLanternHouse$Plan;") (by decide +kernel)) (fun _ h9 => h9) haH_10 dX11_settle_22 ?_
  refine lv_iconst (v := 0) hx hb dX11_settle_25 (by decide) ?_
  refine lv_iload_n hx hb dX11_settle_26 rfl (lv_at hl 2 rfl) ?_
  have hPc : va_P (dC, dI) vwCl (ws_h_changes cB cI cJ cZ cQ ) H := hP.sub [] rfl
  have hDc := hD.sub (ws' := (ws_h_changes cB cI cJ cZ cQ )) [] (by decide) rfl
  have hFc := va_free (wc := (ws_h_changes cB cI cJ cZ cQ )) hD hS hA [] rfl
  refine va_calli (va_runS (As := [.int 0, .int (-1)]) (rest := [.ref aPl]) ⟨hx, hb, hml, hown, hts⟩ (h_changes l dC dI cB cI cJ cZ cQ  H.size) (va_cwS 2 hts g_h_settle_h_changes_303 rfl rfl rfl (by decide +kernel) ⟨Nat.le_of_ble_eq_true rfl, Nat.le_of_ble_eq_true rfl⟩) ⟨zFB, fun U hU hW => zUp hU hW hPc hK hO hDc⟩ rfl rfl hl.1 rfl (lv_room (Nat.le_of_ble_eq_true rfl)) dX11_settle_27 ⟨Nat.le_of_ble_eq_true rfl, Nat.le_of_ble_eq_true rfl⟩) hS (fun q _ h => hFc q h) hFc (fun r22 u t H1 locs ht hvm hw23 hB hz1 hk1 hS => ?_)
  have hP1 : va_P (dC, dI) vwCl [] H1 := zNilP
  have hD1 : va_D (va_A (ws_h_changes cB cI cJ cZ cQ ) H.size) [] := zNilD
  obtain ⟨hP, hD⟩ := va_join (wr := [(aH, .inr (11, fsaH)), (aSh, .inr (7, gs11)), (aPl, .inr (3, gs12))]) (w1 := []) hP hD [] [0, 1, 2] rfl rfl (by decide) (by decide) hk1 hFc hP1 hD1
  generalize H1 = H at hP hS ⊢
  have hP : va_P (dC, dI) vwCl [(aH, .inr (11, fsaH)), (aSh, .inr (7, gs11)), (aPl, .inr (3, gs12))] H := hP
  have hD : va_D A [(aH, .inr (11, fsaH)), (aSh, .inr (7, gs11)), (aPl, .inr (3, gs12))] := hD
  obtain rfl : r22 = 0 := hw23
  refine va_put (D := (dC, dI)) (ci := 3) (v := .int 0) (ty := .int) (C := RX3) (T := TX3) (N := 8) hx hb hts in_h_settle_3 tyX3 tyX3_ok nmX3 hown hK hP hD hS 2 rfl rfl 5 (by decide) (hts (.fieldLink RX11 194 "LanternHouse$Plan" "changes" "I") (by decide +kernel)) (fun _ h9 => h9) rfl (by decide +kernel) rfl rfl (by rw [hgl15]; decide) dX11_settle_30 (fun H locs hP hD hS => ?_)
  have hP : va_P (dC, dI) vwCl [(aH, .inr (11, fsaH)), (aSh, .inr (7, gs11)), (aPl, .inr (3, (List.set gs12 5 (.int 0))))] H := hP
  have hD : va_D A [(aH, .inr (11, fsaH)), (aSh, .inr (7, gs11)), (aPl, .inr (3, (List.set gs12 5 (.int 0))))] := hD
  refine lv_iconst (v := 1) hx hb dX11_settle_33 (by decide) ?_
  refine lv_istore_n (lv' := [(3, .int 1), (0, .ref aH), (1, .int 0), (2, .int (-1))]) hx hb dX11_settle_34 rfl hl (by decide) rfl (fun ls hl => ?_)
  refine lv_iload_n hx hb dX11_settle_35 rfl (lv_at hl 0 rfl) ?_
  refine lv_aload_n hx hb dX11_settle_36 rfl (lv_at hl 1 rfl) ?_
  refine va_get (D := (dC, dI)) (ci := 11) (v := .ref aSh) (C := RX11) (T := TX11) (N := 13) hx hb hts in_h_settle_11 hown hK hP 0 rfl rfl 6 (by decide) (hts (.fieldLink RX11 61 "LanternHouse" "shows" "LLanternHouse$Shows;") (by decide +kernel)) (fun _ h9 => h9) haH_6 dX11_settle_37 ?_
  have hPc : va_P (dC, dI) vwCl (ws_c_all cB cI cJ cZ cQ aSh gs11) H := hP.sub [1] rfl
  have hDc := hD.sub (ws' := (ws_c_all cB cI cJ cZ cQ aSh gs11)) [1] (by decide) rfl
  have hFc := va_free (wc := (ws_c_all cB cI cJ cZ cQ aSh gs11)) hD hS hA [1] rfl
  refine va_calli (va_runV (As := []) (rest := [.int 1]) ⟨hx, hb, hml, hown, hts⟩ (c_all l dC dI cB cI cJ cZ cQ aSh gs11 H.size hgl13 ((hgf14 6 (by decide)).trans ((hgf8 6 (by decide)).trans haSh_6))) (cwV 0 hts g_h_settle_c_all_174 rfl rfl rfl (by decide +kernel) ⟨Nat.le_of_ble_eq_true rfl, Nat.le_of_ble_eq_true rfl⟩) ⟨zFB, va_recv hK hP (ci := 7) (q0 := 1) rfl rfl, fun U hU hW => zUp hU hW hPc hK hO hDc⟩ rfl rfl hl.1 rfl (lv_room (Nat.le_of_ble_eq_true rfl)) dX11_settle_40 ⟨Nat.le_of_ble_eq_true rfl, Nat.le_of_ble_eq_true rfl⟩) hS (fun q _ h => hFc q h) hFc (fun r24 u t H1 locs ht hvm hw25 hB hz1 hk1 hS => ?_)
  obtain ⟨gs26, hgl27, hgf28, hP1, hD1⟩ := hB
  rw [ht] at hP1
  obtain ⟨hP, hD⟩ := va_join (wr := [(aH, .inr (11, fsaH)), (aPl, .inr (3, (List.set gs12 5 (.int 0))))]) (w1 := [(aSh, .inr (7, gs26))]) hP hD [1] [0, 2] rfl rfl (by decide) (by decide) hk1 hFc hP1 hD1
  generalize H1 = H at hP hS ⊢
  have hP : va_P (dC, dI) vwCl [(aH, .inr (11, fsaH)), (aPl, .inr (3, (List.set gs12 5 (.int 0)))), (aSh, .inr (7, gs26))] H := hP
  have hD : va_D A [(aH, .inr (11, fsaH)), (aPl, .inr (3, (List.set gs12 5 (.int 0)))), (aSh, .inr (7, gs26))] := hD
  obtain rfl : r24 = 0 := hw25
  refine lv_icmp_gt (tgt := 134) hx hb dX11_settle_43 (by decide) (fun _ => ?_) (fun zc => absurd zc (by decide))
  have hP9 : va_P (dC, dI) vwCl [(aH, .inr (11, fsaH)), (aPl, .inr (3, (List.set gs12 5 (.int 0))))] H := hP.sub [0, 1] rfl
  have hD9 : va_D A [(aH, .inr (11, fsaH)), (aPl, .inr (3, (List.set gs12 5 (.int 0))))] := hD.sub [0, 1] (by decide) rfl
  exact W.vret hx hb hr (fun t ht hW => ⟨⟨(), rfl, trivial, ⟨fsaH, (List.set gs12 5 (.int 0)), hlaH, (fun j hj => rfl), (zset_len hgl15), (fun j hj => ((zfr (by decide) hj).trans ((zfs hgf16 (by decide) hj).trans rfl))), (zset_ne (by decide) hgk18), by rw [ht]; exact hP9, hD9⟩⟩, hS.F ht⟩) hS.2.2 dX11_settle_134

def zs_h_feed : List Cond := .code yX11_feed cX11_feed 6 (some .int) :: (([.fieldLink RX11 10 "LanternHouse" "tape" "LLanternHouse$Tape;", .fieldLink RX11 99 "LanternHouse$Tape" "length" "I", .methodLink RX11 103 yX9_put, .instanceMethod yX9_put, .selects RX9 yX9_put yX9_put, .initialized RX9] : List Cond) ++ (zs_c_put0 ++ (zs_c_put4 ++ (zs_c_put8 ++ (zs_c_put12 ++ (zs_c_put16 ++ (wsX110 ++ (wsX90 ++ []))))))))
theorem gd_h_feed : (zs_h_feed).all goodWord = true := by decide +kernel
theorem in_h_feed_11 : ∀ w ∈ wsX110, w ∈ zs_h_feed := fun w h => List.mem_cons_of_mem _ (List.mem_append_right _ (List.mem_append_right _ (List.mem_append_right _ (List.mem_append_right _ (List.mem_append_right _ (List.mem_append_right _ (List.mem_append_left _ h)))))))
theorem in_h_feed_9 : ∀ w ∈ wsX90, w ∈ zs_h_feed := fun w h => List.mem_cons_of_mem _ (List.mem_append_right _ (List.mem_append_right _ (List.mem_append_right _ (List.mem_append_right _ (List.mem_append_right _ (List.mem_append_right _ (List.mem_append_right _ (List.mem_append_left _ h))))))))
theorem g_h_feed_c_put0_103 : GoodIn zs_h_feed (wsV RX11 103 RX9 yX9_put zs_c_put0) := goodIn_app (goodIn_of _ (by decide +kernel)) (goodIn_sub (fun w h => List.mem_cons_of_mem _ (List.mem_append_right _ (List.mem_append_left _ h))) gd_c_put0)
theorem g_h_feed_c_put4_103 : GoodIn zs_h_feed (wsV RX11 103 RX9 yX9_put zs_c_put4) := goodIn_app (goodIn_of _ (by decide +kernel)) (goodIn_sub (fun w h => List.mem_cons_of_mem _ (List.mem_append_right _ (List.mem_append_right _ (List.mem_append_left _ h)))) gd_c_put4)
theorem g_h_feed_c_put8_103 : GoodIn zs_h_feed (wsV RX11 103 RX9 yX9_put zs_c_put8) := goodIn_app (goodIn_of _ (by decide +kernel)) (goodIn_sub (fun w h => List.mem_cons_of_mem _ (List.mem_append_right _ (List.mem_append_right _ (List.mem_append_right _ (List.mem_append_left _ h))))) gd_c_put8)
theorem g_h_feed_c_put12_103 : GoodIn zs_h_feed (wsV RX11 103 RX9 yX9_put zs_c_put12) := goodIn_app (goodIn_of _ (by decide +kernel)) (goodIn_sub (fun w h => List.mem_cons_of_mem _ (List.mem_append_right _ (List.mem_append_right _ (List.mem_append_right _ (List.mem_append_right _ (List.mem_append_left _ h)))))) gd_c_put12)
theorem g_h_feed_c_put16_103 : GoodIn zs_h_feed (wsV RX11 103 RX9 yX9_put zs_c_put16) := goodIn_app (goodIn_of _ (by decide +kernel)) (goodIn_sub (fun w h => List.mem_cons_of_mem _ (List.mem_append_right _ (List.mem_append_right _ (List.mem_append_right _ (List.mem_append_right _ (List.mem_append_right _ (List.mem_append_left _ h))))))) gd_c_put16)
abbrev ws_h_feed (cB cI cJ cZ cQ : ClassId) (aH aT qB : Nat) (i0 : Int32) (i1 : Int32) (i2 : Int32) (i3 : Int32) (i4 : Int32) (fB : Nat → Int32) (fsaH : List Value) (fsaT : List Value) : va_W := [(aH, .inr (11, fsaH)), (aT, .inr (9, fsaT)), (qB, .inl (cB, 3000, .inl fB))]
set_option maxHeartbeats 4000000 in
set_option maxRecDepth 100000 in
theorem h_feed (l : Launch) (dC : Nat → ClassId) (dI : Nat → Nat → Nat) (cB cI cJ cZ cQ : ClassId) (aH aT qB : Nat) (i0 : Int32) (i1 : Int32) (i2 : Int32) (i3 : Int32) (i4 : Int32) (fB : Nat → Int32) (fsaH : List Value) (fsaT : List Value) (sz : Nat) (hlaH : fsaH.length = 13) (haH_0 : fsaH[0]? = some (.ref aT)) (hlaT : fsaT.length = 2) (haT_0 : fsaT[0]? = some (.ref qB)) (haT_1 : fsaT[1]? = some (.int 0)) : Met l yX11_feed zs_h_feed ({ frames := 1, cells := 0, slots := 0, locals := 22 } : Room) (zPc [.ref aH, .int i0, .int i1, .int i2, .int i3, .int i4] (dC, dI) (zTY cB cI cJ cZ cQ) (ws_h_feed cB cI cJ cZ cQ aH aT qB i0 i1 i2 i3 i4 fB fsaH fsaT) sz) (va_Qi (fun (zr : Int32) (_ : Unit) => zr = 20) (fun (_ : Unit) (_ : State) => True) (va_A (ws_h_feed cB cI cJ cZ cQ aH aT qB i0 i1 i2 i3 i4 fB fsaH fsaT) sz)) 0 0 (va_A (ws_h_feed cB cI cJ cZ cQ aH aT qB i0 i1 i2 i3 i4 fB fsaH fsaT) sz) := by
  refine Met.ofW (cc := cX11_feed) (maxL := 6) (ret := (some .int)) (by decide) rfl ?_
  intro p e s m args below meth c s₁ B hml hv
  obtain ⟨rfl, hsz, hP0, hK, hO, hD0⟩ := hv
  have hx := B.exec
  have hb := B.bytes
  have hr := B.returns
  have hts := atoms_spec (ws := zs_h_feed) B.pre
  have hown : s.vm.findClass RX11 = some m.cls := findClass_of_methodNamed B.named
  have hlocks := B.notSynchronized
  subst hsz
  have hD8 := hD0.self (sz := s.heap.size)
  generalize hAe : va_A (ws_h_feed cB cI cJ cZ cQ aH aT qB i0 i1 i2 i3 i4 fB fsaH fsaT) s.heap.size = A at hD8 ⊢
  have hA : ∀ q : Nat, s.heap.size ≤ q → A q := fun q h => by rw [← hAe]; exact Or.inr h
  have hS : va_S A s.heap s.heap [] := va_S.rf
  have hP : va_P (dC, dI) vwCl [(aH, .inr (11, fsaH)), (aT, .inr (9, fsaT)), (qB, .inl (cB, 3000, .inl fB))] s.heap := hP0
  have hD : va_D A [(aH, .inr (11, fsaH)), (aT, .inr (9, fsaT)), (qB, .inl (cB, 3000, .inl fB))] := hD8
  have hl := lv_entry ([.ref aH, .int i0, .int i1, .int i2, .int i3, .int i4]) (n := 6) (Nat.le_of_ble_eq_true rfl)
  rw [lg_entry_eq]
  generalize (lg_sl ([.ref aH, .int i0, .int i1, .int i2, .int i3, .int i4]) ++ List.replicate (6 - (lg_sl ([.ref aH, .int i0, .int i1, .int i2, .int i3, .int i4])).length) Slot.unset).toArray = ls at hl ⊢
  have hl : lv_has ls 6 [(0, .ref aH), (1, .int i0), (2, .int i1), (3, .int i2), (4, .int i3), (5, .int i4)] := hl
  clear hP0 hD8 hD0
  refine zH0 (fun H hP hS => ?_) hP hS
  refine lv_aload_n hx hb dX11_feed_0 rfl (lv_at hl 0 rfl) ?_
  refine va_get (D := (dC, dI)) (ci := 11) (v := .ref aT) (C := RX11) (T := TX11) (N := 13) hx hb hts in_h_feed_11 hown hK hP 0 rfl rfl 0 (by decide) (hts (.fieldLink RX11 10 "LanternHouse" "tape" "LLanternHouse$Tape;") (by decide +kernel)) (fun _ h9 => h9) haH_0 dX11_feed_1 ?_
  refine va_get (D := (dC, dI)) (ci := 9) (v := .int 0) (C := RX9) (T := TX9) (N := 2) hx hb hts in_h_feed_9 hown hK hP 1 rfl rfl 1 (by decide) (hts (.fieldLink RX11 99 "LanternHouse$Tape" "length" "I") (by decide +kernel)) (fun _ h9 => h9) haT_1 dX11_feed_4 ?_
  refine lv_sipush (v := 2980) hx hb dX11_feed_7 (by decide) ?_
  refine lv_icmp_le (tgt := 15) hx hb dX11_feed_10 (by decide) (fun _ => ?_) (fun zc => absurd zc (by decide))
  refine lv_aload_n hx hb dX11_feed_15 rfl (lv_at hl 0 rfl) ?_
  refine va_get (D := (dC, dI)) (ci := 11) (v := .ref aT) (C := RX11) (T := TX11) (N := 13) hx hb hts in_h_feed_11 hown hK hP 0 rfl rfl 0 (by decide) (hts (.fieldLink RX11 10 "LanternHouse" "tape" "LLanternHouse$Tape;") (by decide +kernel)) (fun _ h9 => h9) haH_0 dX11_feed_16 ?_
  refine lv_iload_n hx hb dX11_feed_19 rfl (lv_at hl 1 rfl) ?_
  have hPc : va_P (dC, dI) vwCl (ws_c_put0 cB cI cJ cZ cQ aT qB i0 fB fsaT) H := hP.sub [1, 2] rfl
  have hDc := hD.sub (ws' := (ws_c_put0 cB cI cJ cZ cQ aT qB i0 fB fsaT)) [1, 2] (by decide) rfl
  have hFc := va_free (wc := (ws_c_put0 cB cI cJ cZ cQ aT qB i0 fB fsaT)) hD hS hA [1, 2] rfl
  refine va_callv (va_runV (As := [.int i0]) (rest := []) ⟨hx, hb, hml, hown, hts⟩ (c_put0 l dC dI cB cI cJ cZ cQ aT qB i0 fB fsaT H.size hlaT haT_0 haT_1) (cwV 1 hts g_h_feed_c_put0_103 rfl rfl rfl (by decide +kernel) ⟨Nat.le_of_ble_eq_true rfl, Nat.le_of_ble_eq_true rfl⟩) ⟨zFB, va_recv hK hP (ci := 9) (q0 := 1) rfl rfl, fun U hU hW => zUp hU hW hPc hK hO hDc⟩ rfl rfl hl.1 rfl (lv_room (Nat.le_of_ble_eq_true rfl)) dX11_feed_20 ⟨Nat.le_of_ble_eq_true rfl, Nat.le_of_ble_eq_true rfl⟩) hS (fun q _ h => hFc q h) hFc (fun u t H1 locs ht hvm hw2 hB hz1 hk1 hS => ?_)
  obtain ⟨fB23, gs4, hgl5, hgf6, hgk7, hP1, hD1⟩ := hB
  rw [ht] at hP1
  obtain ⟨hP, hD⟩ := va_join (wr := [(aH, .inr (11, fsaH))]) (w1 := [(aT, .inr (9, gs4)), (qB, .inl (cB, 3000, .inl fB23))]) hP hD [1, 2] [0] rfl rfl (by decide) (by decide) hk1 hFc hP1 hD1
  generalize H1 = H at hP hS ⊢
  have hP : va_P (dC, dI) vwCl [(aH, .inr (11, fsaH)), (aT, .inr (9, gs4)), (qB, .inl (cB, 3000, .inl fB23))] H := hP
  have hD : va_D A [(aH, .inr (11, fsaH)), (aT, .inr (9, gs4)), (qB, .inl (cB, 3000, .inl fB23))] := hD
  refine lv_aload_n hx hb dX11_feed_23 rfl (lv_at hl 0 rfl) ?_
  refine va_get (D := (dC, dI)) (ci := 11) (v := .ref aT) (C := RX11) (T := TX11) (N := 13) hx hb hts in_h_feed_11 hown hK hP 0 rfl rfl 0 (by decide) (hts (.fieldLink RX11 10 "LanternHouse" "tape" "LLanternHouse$Tape;") (by decide +kernel)) (fun _ h9 => h9) haH_0 dX11_feed_24 ?_
  refine lv_iload_n hx hb dX11_feed_27 rfl (lv_at hl 2 rfl) ?_
  have hPc : va_P (dC, dI) vwCl (ws_c_put4 cB cI cJ cZ cQ aT qB i1 fB23 gs4) H := hP.sub [1, 2] rfl
  have hDc := hD.sub (ws' := (ws_c_put4 cB cI cJ cZ cQ aT qB i1 fB23 gs4)) [1, 2] (by decide) rfl
  have hFc := va_free (wc := (ws_c_put4 cB cI cJ cZ cQ aT qB i1 fB23 gs4)) hD hS hA [1, 2] rfl
  refine va_callv (va_runV (As := [.int i1]) (rest := []) ⟨hx, hb, hml, hown, hts⟩ (c_put4 l dC dI cB cI cJ cZ cQ aT qB i1 fB23 gs4 H.size hgl5 ((hgf6 0 (by decide)).trans haT_0) hgk7) (cwV 1 hts g_h_feed_c_put4_103 rfl rfl rfl (by decide +kernel) ⟨Nat.le_of_ble_eq_true rfl, Nat.le_of_ble_eq_true rfl⟩) ⟨zFB, va_recv hK hP (ci := 9) (q0 := 1) rfl rfl, fun U hU hW => zUp hU hW hPc hK hO hDc⟩ rfl rfl hl.1 rfl (lv_room (Nat.le_of_ble_eq_true rfl)) dX11_feed_28 ⟨Nat.le_of_ble_eq_true rfl, Nat.le_of_ble_eq_true rfl⟩) hS (fun q _ h => hFc q h) hFc (fun u t H1 locs ht hvm hw9 hB hz1 hk1 hS => ?_)
  obtain ⟨fB210, gs11, hgl12, hgf13, hgk14, hP1, hD1⟩ := hB
  rw [ht] at hP1
  obtain ⟨hP, hD⟩ := va_join (wr := [(aH, .inr (11, fsaH))]) (w1 := [(aT, .inr (9, gs11)), (qB, .inl (cB, 3000, .inl fB210))]) hP hD [1, 2] [0] rfl rfl (by decide) (by decide) hk1 hFc hP1 hD1
  generalize H1 = H at hP hS ⊢
  have hP : va_P (dC, dI) vwCl [(aH, .inr (11, fsaH)), (aT, .inr (9, gs11)), (qB, .inl (cB, 3000, .inl fB210))] H := hP
  have hD : va_D A [(aH, .inr (11, fsaH)), (aT, .inr (9, gs11)), (qB, .inl (cB, 3000, .inl fB210))] := hD
  refine lv_aload_n hx hb dX11_feed_31 rfl (lv_at hl 0 rfl) ?_
  refine va_get (D := (dC, dI)) (ci := 11) (v := .ref aT) (C := RX11) (T := TX11) (N := 13) hx hb hts in_h_feed_11 hown hK hP 0 rfl rfl 0 (by decide) (hts (.fieldLink RX11 10 "LanternHouse" "tape" "LLanternHouse$Tape;") (by decide +kernel)) (fun _ h9 => h9) haH_0 dX11_feed_32 ?_
  refine lv_iload_n hx hb dX11_feed_35 rfl (lv_at hl 3 rfl) ?_
  have hPc : va_P (dC, dI) vwCl (ws_c_put8 cB cI cJ cZ cQ aT qB i2 fB210 gs11) H := hP.sub [1, 2] rfl
  have hDc := hD.sub (ws' := (ws_c_put8 cB cI cJ cZ cQ aT qB i2 fB210 gs11)) [1, 2] (by decide) rfl
  have hFc := va_free (wc := (ws_c_put8 cB cI cJ cZ cQ aT qB i2 fB210 gs11)) hD hS hA [1, 2] rfl
  refine va_callv (va_runV (As := [.int i2]) (rest := []) ⟨hx, hb, hml, hown, hts⟩ (c_put8 l dC dI cB cI cJ cZ cQ aT qB i2 fB210 gs11 H.size hgl12 ((hgf13 0 (by decide)).trans ((hgf6 0 (by decide)).trans haT_0)) hgk14) (cwV 1 hts g_h_feed_c_put8_103 rfl rfl rfl (by decide +kernel) ⟨Nat.le_of_ble_eq_true rfl, Nat.le_of_ble_eq_true rfl⟩) ⟨zFB, va_recv hK hP (ci := 9) (q0 := 1) rfl rfl, fun U hU hW => zUp hU hW hPc hK hO hDc⟩ rfl rfl hl.1 rfl (lv_room (Nat.le_of_ble_eq_true rfl)) dX11_feed_36 ⟨Nat.le_of_ble_eq_true rfl, Nat.le_of_ble_eq_true rfl⟩) hS (fun q _ h => hFc q h) hFc (fun u t H1 locs ht hvm hw16 hB hz1 hk1 hS => ?_)
  obtain ⟨fB217, gs18, hgl19, hgf20, hgk21, hP1, hD1⟩ := hB
  rw [ht] at hP1
  obtain ⟨hP, hD⟩ := va_join (wr := [(aH, .inr (11, fsaH))]) (w1 := [(aT, .inr (9, gs18)), (qB, .inl (cB, 3000, .inl fB217))]) hP hD [1, 2] [0] rfl rfl (by decide) (by decide) hk1 hFc hP1 hD1
  generalize H1 = H at hP hS ⊢
  have hP : va_P (dC, dI) vwCl [(aH, .inr (11, fsaH)), (aT, .inr (9, gs18)), (qB, .inl (cB, 3000, .inl fB217))] H := hP
  have hD : va_D A [(aH, .inr (11, fsaH)), (aT, .inr (9, gs18)), (qB, .inl (cB, 3000, .inl fB217))] := hD
  refine lv_aload_n hx hb dX11_feed_39 rfl (lv_at hl 0 rfl) ?_
  refine va_get (D := (dC, dI)) (ci := 11) (v := .ref aT) (C := RX11) (T := TX11) (N := 13) hx hb hts in_h_feed_11 hown hK hP 0 rfl rfl 0 (by decide) (hts (.fieldLink RX11 10 "LanternHouse" "tape" "LLanternHouse$Tape;") (by decide +kernel)) (fun _ h9 => h9) haH_0 dX11_feed_40 ?_
  refine lv_iload hx hb dX11_feed_43 (lv_at hl 4 rfl) ?_
  have hPc : va_P (dC, dI) vwCl (ws_c_put12 cB cI cJ cZ cQ aT qB i3 fB217 gs18) H := hP.sub [1, 2] rfl
  have hDc := hD.sub (ws' := (ws_c_put12 cB cI cJ cZ cQ aT qB i3 fB217 gs18)) [1, 2] (by decide) rfl
  have hFc := va_free (wc := (ws_c_put12 cB cI cJ cZ cQ aT qB i3 fB217 gs18)) hD hS hA [1, 2] rfl
  refine va_callv (va_runV (As := [.int i3]) (rest := []) ⟨hx, hb, hml, hown, hts⟩ (c_put12 l dC dI cB cI cJ cZ cQ aT qB i3 fB217 gs18 H.size hgl19 ((hgf20 0 (by decide)).trans ((hgf13 0 (by decide)).trans ((hgf6 0 (by decide)).trans haT_0))) hgk21) (cwV 1 hts g_h_feed_c_put12_103 rfl rfl rfl (by decide +kernel) ⟨Nat.le_of_ble_eq_true rfl, Nat.le_of_ble_eq_true rfl⟩) ⟨zFB, va_recv hK hP (ci := 9) (q0 := 1) rfl rfl, fun U hU hW => zUp hU hW hPc hK hO hDc⟩ rfl rfl hl.1 rfl (lv_room (Nat.le_of_ble_eq_true rfl)) dX11_feed_45 ⟨Nat.le_of_ble_eq_true rfl, Nat.le_of_ble_eq_true rfl⟩) hS (fun q _ h => hFc q h) hFc (fun u t H1 locs ht hvm hw23 hB hz1 hk1 hS => ?_)
  obtain ⟨fB224, gs25, hgl26, hgf27, hgk28, hP1, hD1⟩ := hB
  rw [ht] at hP1
  obtain ⟨hP, hD⟩ := va_join (wr := [(aH, .inr (11, fsaH))]) (w1 := [(aT, .inr (9, gs25)), (qB, .inl (cB, 3000, .inl fB224))]) hP hD [1, 2] [0] rfl rfl (by decide) (by decide) hk1 hFc hP1 hD1
  generalize H1 = H at hP hS ⊢
  have hP : va_P (dC, dI) vwCl [(aH, .inr (11, fsaH)), (aT, .inr (9, gs25)), (qB, .inl (cB, 3000, .inl fB224))] H := hP
  have hD : va_D A [(aH, .inr (11, fsaH)), (aT, .inr (9, gs25)), (qB, .inl (cB, 3000, .inl fB224))] := hD
  refine lv_aload_n hx hb dX11_feed_48 rfl (lv_at hl 0 rfl) ?_
  refine va_get (D := (dC, dI)) (ci := 11) (v := .ref aT) (C := RX11) (T := TX11) (N := 13) hx hb hts in_h_feed_11 hown hK hP 0 rfl rfl 0 (by decide) (hts (.fieldLink RX11 10 "LanternHouse" "tape" "LLanternHouse$Tape;") (by decide +kernel)) (fun _ h9 => h9) haH_0 dX11_feed_49 ?_
  refine lv_iload hx hb dX11_feed_52 (lv_at hl 5 rfl) ?_
  have hPc : va_P (dC, dI) vwCl (ws_c_put16 cB cI cJ cZ cQ aT qB i4 fB224 gs25) H := hP.sub [1, 2] rfl
  have hDc := hD.sub (ws' := (ws_c_put16 cB cI cJ cZ cQ aT qB i4 fB224 gs25)) [1, 2] (by decide) rfl
  have hFc := va_free (wc := (ws_c_put16 cB cI cJ cZ cQ aT qB i4 fB224 gs25)) hD hS hA [1, 2] rfl
  refine va_callv (va_runV (As := [.int i4]) (rest := []) ⟨hx, hb, hml, hown, hts⟩ (c_put16 l dC dI cB cI cJ cZ cQ aT qB i4 fB224 gs25 H.size hgl26 ((hgf27 0 (by decide)).trans ((hgf20 0 (by decide)).trans ((hgf13 0 (by decide)).trans ((hgf6 0 (by decide)).trans haT_0)))) hgk28) (cwV 1 hts g_h_feed_c_put16_103 rfl rfl rfl (by decide +kernel) ⟨Nat.le_of_ble_eq_true rfl, Nat.le_of_ble_eq_true rfl⟩) ⟨zFB, va_recv hK hP (ci := 9) (q0 := 1) rfl rfl, fun U hU hW => zUp hU hW hPc hK hO hDc⟩ rfl rfl hl.1 rfl (lv_room (Nat.le_of_ble_eq_true rfl)) dX11_feed_54 ⟨Nat.le_of_ble_eq_true rfl, Nat.le_of_ble_eq_true rfl⟩) hS (fun q _ h => hFc q h) hFc (fun u t H1 locs ht hvm hw30 hB hz1 hk1 hS => ?_)
  obtain ⟨fB231, gs32, hgl33, hgf34, hgk35, hP1, hD1⟩ := hB
  rw [ht] at hP1
  obtain ⟨hP, hD⟩ := va_join (wr := [(aH, .inr (11, fsaH))]) (w1 := [(aT, .inr (9, gs32)), (qB, .inl (cB, 3000, .inl fB231))]) hP hD [1, 2] [0] rfl rfl (by decide) (by decide) hk1 hFc hP1 hD1
  generalize H1 = H at hP hS ⊢
  have hP : va_P (dC, dI) vwCl [(aH, .inr (11, fsaH)), (aT, .inr (9, gs32)), (qB, .inl (cB, 3000, .inl fB231))] H := hP
  have hD : va_D A [(aH, .inr (11, fsaH)), (aT, .inr (9, gs32)), (qB, .inl (cB, 3000, .inl fB231))] := hD
  refine lv_aload_n hx hb dX11_feed_57 rfl (lv_at hl 0 rfl) ?_
  refine va_get (D := (dC, dI)) (ci := 11) (v := .ref aT) (C := RX11) (T := TX11) (N := 13) hx hb hts in_h_feed_11 hown hK hP 0 rfl rfl 0 (by decide) (hts (.fieldLink RX11 10 "LanternHouse" "tape" "LLanternHouse$Tape;") (by decide +kernel)) (fun _ h9 => h9) haH_0 dX11_feed_58 ?_
  refine va_get (D := (dC, dI)) (ci := 9) (v := .int 20) (C := RX9) (T := TX9) (N := 2) hx hb hts in_h_feed_9 hown hK hP 1 rfl rfl 1 (by decide) (hts (.fieldLink RX11 99 "LanternHouse$Tape" "length" "I") (by decide +kernel)) (fun _ h9 => h9) hgk35 dX11_feed_61 ?_
  exact W.iret (v := 20) hx hb hr (fun t ht hW => ⟨⟨20, (), rfl, rfl, trivial⟩, hS.F ht⟩) hS.2.2 dX11_feed_64

def zs_h_back : List Cond := .code yX11_back cX11_back 2 (some .int) :: (([.fieldLink RX11 10 "LanternHouse" "tape" "LLanternHouse$Tape;", .fieldLink RX11 99 "LanternHouse$Tape" "length" "I"] : List Cond) ++ (wsX110 ++ (wsX90 ++ [])))
theorem gd_h_back : (zs_h_back).all goodWord = true := by decide +kernel
theorem in_h_back_11 : ∀ w ∈ wsX110, w ∈ zs_h_back := fun w h => List.mem_cons_of_mem _ (List.mem_append_right _ (List.mem_append_left _ h))
theorem in_h_back_9 : ∀ w ∈ wsX90, w ∈ zs_h_back := fun w h => List.mem_cons_of_mem _ (List.mem_append_right _ (List.mem_append_right _ (List.mem_append_left _ h)))
abbrev ws_h_back (cB cI cJ cZ cQ : ClassId) (aH aT : Nat) (iN : Int32) (fsaH : List Value) (fsaT : List Value) : va_W := [(aH, .inr (11, fsaH)), (aT, .inr (9, fsaT))]
set_option maxHeartbeats 4000000 in
set_option maxRecDepth 100000 in
theorem h_back (l : Launch) (dC : Nat → ClassId) (dI : Nat → Nat → Nat) (cB cI cJ cZ cQ : ClassId) (aH aT : Nat) (iN : Int32) (fsaH : List Value) (fsaT : List Value) (sz : Nat) (hlaH : fsaH.length = 13) (haH_0 : fsaH[0]? = some (.ref aT)) (hlaT : fsaT.length = 2) (haT_1 : fsaT[1]? = some (.int 0)) : Met l yX11_back zs_h_back ({ frames := 0, cells := 0, slots := 0, locals := 0 } : Room) (zPc [.ref aH, .int iN] (dC, dI) (zTY cB cI cJ cZ cQ) (ws_h_back cB cI cJ cZ cQ aH aT iN fsaH fsaT) sz) (va_Qi (fun (zr : Int32) (_ : Unit) => zr = sp_back iN) (fun (_ : Unit) (_ : State) => True) (va_A (ws_h_back cB cI cJ cZ cQ aH aT iN fsaH fsaT) sz)) 0 0 (va_A (ws_h_back cB cI cJ cZ cQ aH aT iN fsaH fsaT) sz) := by
  refine Met.ofW (cc := cX11_back) (maxL := 2) (ret := (some .int)) (by decide) rfl ?_
  intro p e s m args below meth c s₁ B hml hv
  obtain ⟨rfl, hsz, hP0, hK, hO, hD0⟩ := hv
  have hx := B.exec
  have hb := B.bytes
  have hr := B.returns
  have hts := atoms_spec (ws := zs_h_back) B.pre
  have hown : s.vm.findClass RX11 = some m.cls := findClass_of_methodNamed B.named
  have hlocks := B.notSynchronized
  subst hsz
  have hD8 := hD0.self (sz := s.heap.size)
  generalize hAe : va_A (ws_h_back cB cI cJ cZ cQ aH aT iN fsaH fsaT) s.heap.size = A at hD8 ⊢
  have hA : ∀ q : Nat, s.heap.size ≤ q → A q := fun q h => by rw [← hAe]; exact Or.inr h
  have hS : va_S A s.heap s.heap [] := va_S.rf
  have hP : va_P (dC, dI) vwCl [(aH, .inr (11, fsaH)), (aT, .inr (9, fsaT))] s.heap := hP0
  have hD : va_D A [(aH, .inr (11, fsaH)), (aT, .inr (9, fsaT))] := hD8
  have hl := lv_entry ([.ref aH, .int iN]) (n := 2) (Nat.le_of_ble_eq_true rfl)
  rw [lg_entry_eq]
  generalize (lg_sl ([.ref aH, .int iN]) ++ List.replicate (2 - (lg_sl ([.ref aH, .int iN])).length) Slot.unset).toArray = ls at hl ⊢
  have hl : lv_has ls 2 [(0, .ref aH), (1, .int iN)] := hl
  clear hP0 hD8 hD0
  refine zH0 (fun H hP hS => ?_) hP hS
  refine lv_iload_n hx hb dX11_back_0 rfl (lv_at hl 1 rfl) ?_
  refine lv_if_lt (tgt := 15) hx hb dX11_back_1 (by decide) (fun c1 => ?_) (fun c1 => ?_)
  · skip
    refine lv_iconst (v := (-1)) hx hb dX11_back_15 (by decide) ?_
    exact W.iret (v := (-1)) hx hb hr (fun t ht hW => ⟨⟨(-1), (), rfl, (by first | rfl | decide | (unfold sp_back; split <;> rename_i zh <;> first | rfl | (exfalso; simp only [Int32.lt_iff_toInt_lt, Int32.le_iff_toInt_le, ← Int32.toInt_inj, zi_m1, zi_0, zi_1, zi_6, zi_8, zi_M, zi_16, zi_20, zi_23, zi_24, zi_27, zi_29, zi_30, zi_40, zi_500, zi_700, zi_1000, true_and, and_true] at zh c1 <;> omega))), trivial⟩, hS.F ht⟩) hS.2.2 dX11_back_16
  · skip
    refine lv_iload_n hx hb dX11_back_4 rfl (lv_at hl 1 rfl) ?_
    refine lv_aload_n hx hb dX11_back_5 rfl (lv_at hl 0 rfl) ?_
    refine va_get (D := (dC, dI)) (ci := 11) (v := .ref aT) (C := RX11) (T := TX11) (N := 13) hx hb hts in_h_back_11 hown hK hP 0 rfl rfl 0 (by decide) (hts (.fieldLink RX11 10 "LanternHouse" "tape" "LLanternHouse$Tape;") (by decide +kernel)) (fun _ h9 => h9) haH_0 dX11_back_6 ?_
    refine va_get (D := (dC, dI)) (ci := 9) (v := .int 0) (C := RX9) (T := TX9) (N := 2) hx hb hts in_h_back_9 hown hK hP 1 rfl rfl 1 (by decide) (hts (.fieldLink RX11 99 "LanternHouse$Tape" "length" "I") (by decide +kernel)) (fun _ h9 => h9) haT_1 dX11_back_9 ?_
    refine lv_icmp_le (tgt := 17) hx hb dX11_back_12 (by decide) (fun c2 => ?_) (fun c2 => ?_)
    · skip
      have ziN : iN = 0 := z_inj (by simp only [Int32.lt_iff_toInt_lt, Int32.le_iff_toInt_le, ← Int32.toInt_inj, zi_m1, zi_0, zi_1, zi_6, zi_8, zi_M, zi_16, zi_20, zi_23, zi_24, zi_27, zi_29, zi_30, zi_40, zi_500, zi_700, zi_1000] at c1 c2 ⊢<;> omega)
      subst ziN
      refine lv_aload_n hx hb dX11_back_17 rfl (lv_at hl 0 rfl) ?_
      refine va_get (D := (dC, dI)) (ci := 11) (v := .ref aT) (C := RX11) (T := TX11) (N := 13) hx hb hts in_h_back_11 hown hK hP 0 rfl rfl 0 (by decide) (hts (.fieldLink RX11 10 "LanternHouse" "tape" "LLanternHouse$Tape;") (by decide +kernel)) (fun _ h9 => h9) haH_0 dX11_back_18 ?_
      refine lv_dup hx hb dX11_back_21 rfl ?_
      refine va_get (D := (dC, dI)) (ci := 9) (v := .int 0) (C := RX9) (T := TX9) (N := 2) hx hb hts in_h_back_9 hown hK hP 1 rfl rfl 1 (by decide) (hts (.fieldLink RX11 99 "LanternHouse$Tape" "length" "I") (by decide +kernel)) (fun _ h9 => h9) haT_1 dX11_back_22 ?_
      refine lv_iload_n hx hb dX11_back_25 rfl (lv_at hl 1 rfl) ?_
      refine lv_isub hx hb dX11_back_26 ?_
      refine lv_topi (fun x3 ex3 => ?_)
      obtain rfl : x3 = 0 := ex3.trans (by decide)
      refine va_put (D := (dC, dI)) (ci := 9) (v := .int 0) (ty := .int) (C := RX9) (T := TX9) (N := 2) hx hb hts in_h_back_9 tyX9 tyX9_ok nmX9 hown hK hP hD hS 1 rfl rfl 1 (by decide) (hts (.fieldLink RX11 99 "LanternHouse$Tape" "length" "I") (by decide +kernel)) (fun _ h9 => h9) rfl (by decide +kernel) rfl rfl (by rw [hlaT]; decide) dX11_back_27 (fun H locs hP hD hS => ?_)
      have hP : va_P (dC, dI) vwCl [(aH, .inr (11, fsaH)), (aT, .inr (9, (List.set fsaT 1 (.int 0))))] H := hP
      have hD : va_D A [(aH, .inr (11, fsaH)), (aT, .inr (9, (List.set fsaT 1 (.int 0))))] := hD
      refine lv_aload_n hx hb dX11_back_30 rfl (lv_at hl 0 rfl) ?_
      refine va_get (D := (dC, dI)) (ci := 11) (v := .ref aT) (C := RX11) (T := TX11) (N := 13) hx hb hts in_h_back_11 hown hK hP 0 rfl rfl 0 (by decide) (hts (.fieldLink RX11 10 "LanternHouse" "tape" "LLanternHouse$Tape;") (by decide +kernel)) (fun _ h9 => h9) haH_0 dX11_back_31 ?_
      refine va_get (D := (dC, dI)) (ci := 9) (v := .int 0) (C := RX9) (T := TX9) (N := 2) hx hb hts in_h_back_9 hown hK hP 1 rfl rfl 1 (by decide) (hts (.fieldLink RX11 99 "LanternHouse$Tape" "length" "I") (by decide +kernel)) (fun _ h9 => h9) (zset_eq (by rw [hlaT]; decide)) dX11_back_34 ?_
      exact W.iret (v := 0) hx hb hr (fun t ht hW => ⟨⟨0, (), rfl, (by first | rfl | decide | (unfold sp_back; split <;> rename_i zh <;> first | rfl | (exfalso; simp only [Int32.lt_iff_toInt_lt, Int32.le_iff_toInt_le, ← Int32.toInt_inj, zi_m1, zi_0, zi_1, zi_6, zi_8, zi_M, zi_16, zi_20, zi_23, zi_24, zi_27, zi_29, zi_30, zi_40, zi_500, zi_700, zi_1000, true_and, and_true] at zh c1 c2 <;> omega))), trivial⟩, hS.F ht⟩) hS.2.2 dX11_back_37
    · skip
      refine lv_iconst (v := (-1)) hx hb dX11_back_15 (by decide) ?_
      exact W.iret (v := (-1)) hx hb hr (fun t ht hW => ⟨⟨(-1), (), rfl, (by first | rfl | decide | (unfold sp_back; split <;> rename_i zh <;> first | rfl | (exfalso; simp only [Int32.lt_iff_toInt_lt, Int32.le_iff_toInt_le, ← Int32.toInt_inj, zi_m1, zi_0, zi_1, zi_6, zi_8, zi_M, zi_16, zi_20, zi_23, zi_24, zi_27, zi_29, zi_30, zi_40, zi_500, zi_700, zi_1000, true_and, and_true] at zh c1 c2 <;> omega))), trivial⟩, hS.F ht⟩) hS.2.2 dX11_back_16

def zs_h_read : List Cond := .code yX11_read cX11_read 2 (some .int) :: (([.fieldLink RX11 19 "LanternHouse" "tokens" "LLanternHouse$Tokens;", .fieldLink RX11 10 "LanternHouse" "tape" "LLanternHouse$Tape;", .fieldLink RX11 99 "LanternHouse$Tape" "length" "I", .fieldLink RX11 28 "LanternHouse" "reader" "LLanternHouse$Reader;", .fieldLink RX11 81 "LanternHouse" "draft" "LLanternHouse$Lectures;", .fieldLink RX11 114 "LanternHouse$Reader" "fault" "I", .fieldLink RX11 61 "LanternHouse" "shows" "LLanternHouse$Shows;", .fieldLink RX11 117 "LanternHouse$Shows" "text" "LLanternHouse$Lectures;", .fieldLink RX11 95 "LanternHouse" "isMade" "Z", .methodLink RX11 107 yX10_scan, .instanceMethod yX10_scan, .selects RX10 yX10_scan yX10_scan, .initialized RX10, .methodLink RX11 111 yX5_parse, .instanceMethod yX5_parse, .selects RX5 yX5_parse yX5_parse, .initialized RX5, .methodLink RX11 120 yX7_startOver, .instanceMethod yX7_startOver, .selects RX7 yX7_startOver yX7_startOver, .initialized RX7] : List Cond) ++ (zs_c_scan ++ (zs_c_parse ++ (zs_c_startOver ++ (wsX110 ++ (wsX90 ++ (wsX50 ++ (wsX70 ++ []))))))))
theorem gd_h_read : (zs_h_read).all goodWord = true := by decide +kernel
theorem in_h_read_11 : ∀ w ∈ wsX110, w ∈ zs_h_read := fun w h => List.mem_cons_of_mem _ (List.mem_append_right _ (List.mem_append_right _ (List.mem_append_right _ (List.mem_append_right _ (List.mem_append_left _ h)))))
theorem in_h_read_9 : ∀ w ∈ wsX90, w ∈ zs_h_read := fun w h => List.mem_cons_of_mem _ (List.mem_append_right _ (List.mem_append_right _ (List.mem_append_right _ (List.mem_append_right _ (List.mem_append_right _ (List.mem_append_left _ h))))))
theorem in_h_read_5 : ∀ w ∈ wsX50, w ∈ zs_h_read := fun w h => List.mem_cons_of_mem _ (List.mem_append_right _ (List.mem_append_right _ (List.mem_append_right _ (List.mem_append_right _ (List.mem_append_right _ (List.mem_append_right _ (List.mem_append_left _ h)))))))
theorem in_h_read_7 : ∀ w ∈ wsX70, w ∈ zs_h_read := fun w h => List.mem_cons_of_mem _ (List.mem_append_right _ (List.mem_append_right _ (List.mem_append_right _ (List.mem_append_right _ (List.mem_append_right _ (List.mem_append_right _ (List.mem_append_right _ (List.mem_append_left _ h))))))))
theorem g_h_read_c_scan_107 : GoodIn zs_h_read (wsV RX11 107 RX10 yX10_scan zs_c_scan) := goodIn_app (goodIn_of _ (by decide +kernel)) (goodIn_sub (fun w h => List.mem_cons_of_mem _ (List.mem_append_right _ (List.mem_append_left _ h))) gd_c_scan)
theorem g_h_read_c_parse_111 : GoodIn zs_h_read (wsV RX11 111 RX5 yX5_parse zs_c_parse) := goodIn_app (goodIn_of _ (by decide +kernel)) (goodIn_sub (fun w h => List.mem_cons_of_mem _ (List.mem_append_right _ (List.mem_append_right _ (List.mem_append_left _ h)))) gd_c_parse)
theorem g_h_read_c_startOver_120 : GoodIn zs_h_read (wsV RX11 120 RX7 yX7_startOver zs_c_startOver) := goodIn_app (goodIn_of _ (by decide +kernel)) (goodIn_sub (fun w h => List.mem_cons_of_mem _ (List.mem_append_right _ (List.mem_append_right _ (List.mem_append_right _ (List.mem_append_left _ h))))) gd_c_startOver)
abbrev ws_h_read (cB cI cJ cZ cQ : ClassId) (aH aT aTk qS qP qV aR aSh aD aX : Nat) (fS : Nat → Int32) (fP : Nat → Int32) (fV : Nat → Int64) (fsaH : List Value) (fsaT : List Value) (fsaTk : List Value) (fsaR : List Value) (fsaSh : List Value) (fsaD : List Value) : va_W := [(aH, .inr (11, fsaH)), (aT, .inr (9, fsaT)), (aTk, .inr (10, fsaTk)), (qS, .inl (cI, 601, .inl fS)), (qP, .inl (cI, 601, .inl fP)), (qV, .inl (cJ, 601, .inr (.inl fV))), (aR, .inr (5, fsaR)), (aSh, .inr (7, fsaSh)), (aD, .inr (2, fsaD))]
set_option maxHeartbeats 4000000 in
set_option maxRecDepth 100000 in
theorem h_read (l : Launch) (dC : Nat → ClassId) (dI : Nat → Nat → Nat) (cB cI cJ cZ cQ : ClassId) (aH aT aTk qS qP qV aR aSh aD aX : Nat) (fS : Nat → Int32) (fP : Nat → Int32) (fV : Nat → Int64) (fsaH : List Value) (fsaT : List Value) (fsaTk : List Value) (fsaR : List Value) (fsaSh : List Value) (fsaD : List Value) (sz : Nat) (hlaH : fsaH.length = 13) (haH_0 : fsaH[0]? = some (.ref aT)) (haH_1 : fsaH[1]? = some (.ref aTk)) (haH_2 : fsaH[2]? = some (.ref aR)) (haH_6 : fsaH[6]? = some (.ref aSh)) (haH_9 : fsaH[9]? = some (.ref aD)) (hlaT : fsaT.length = 2) (haT_1 : fsaT[1]? = some (.int 0)) (hlaTk : fsaTk.length = 3) (haTk_0 : fsaTk[0]? = some (.ref qS)) (haTk_1 : fsaTk[1]? = some (.ref qP)) (haTk_2 : fsaTk[2]? = some (.ref qV)) (hlaR : fsaR.length = 11) (haR_0 : fsaR[0]? = some (.ref aTk)) (hlaSh : fsaSh.length = 8) (haSh_7 : fsaSh[7]? = some (.ref aX)) (hlaD : fsaD.length = 13) : Met l yX11_read zs_h_read ({ frames := 3, cells := 0, slots := 0, locals := 71 } : Room) (zPc [.ref aH] (dC, dI) (zTY cB cI cJ cZ cQ) (ws_h_read cB cI cJ cZ cQ aH aT aTk qS qP qV aR aSh aD aX fS fP fV fsaH fsaT fsaTk fsaR fsaSh fsaD) sz) (va_Qi (fun (zr : Int32) (_ : Unit) => zr = 0) (fun (_ : Unit) (_ : State) => True) (va_A (ws_h_read cB cI cJ cZ cQ aH aT aTk qS qP qV aR aSh aD aX fS fP fV fsaH fsaT fsaTk fsaR fsaSh fsaD) sz)) 0 0 (va_A (ws_h_read cB cI cJ cZ cQ aH aT aTk qS qP qV aR aSh aD aX fS fP fV fsaH fsaT fsaTk fsaR fsaSh fsaD) sz) := by
  refine Met.ofW (cc := cX11_read) (maxL := 2) (ret := (some .int)) (by decide) rfl ?_
  intro p e s m args below meth c s₁ B hml hv
  obtain ⟨rfl, hsz, hP0, hK, hO, hD0⟩ := hv
  have hx := B.exec
  have hb := B.bytes
  have hr := B.returns
  have hts := atoms_spec (ws := zs_h_read) B.pre
  have hown : s.vm.findClass RX11 = some m.cls := findClass_of_methodNamed B.named
  have hlocks := B.notSynchronized
  subst hsz
  have hD8 := hD0.self (sz := s.heap.size)
  generalize hAe : va_A (ws_h_read cB cI cJ cZ cQ aH aT aTk qS qP qV aR aSh aD aX fS fP fV fsaH fsaT fsaTk fsaR fsaSh fsaD) s.heap.size = A at hD8 ⊢
  have hA : ∀ q : Nat, s.heap.size ≤ q → A q := fun q h => by rw [← hAe]; exact Or.inr h
  have hS : va_S A s.heap s.heap [] := va_S.rf
  have hP : va_P (dC, dI) vwCl [(aH, .inr (11, fsaH)), (aT, .inr (9, fsaT)), (aTk, .inr (10, fsaTk)), (qS, .inl (cI, 601, .inl fS)), (qP, .inl (cI, 601, .inl fP)), (qV, .inl (cJ, 601, .inr (.inl fV))), (aR, .inr (5, fsaR)), (aSh, .inr (7, fsaSh)), (aD, .inr (2, fsaD))] s.heap := hP0
  have hD : va_D A [(aH, .inr (11, fsaH)), (aT, .inr (9, fsaT)), (aTk, .inr (10, fsaTk)), (qS, .inl (cI, 601, .inl fS)), (qP, .inl (cI, 601, .inl fP)), (qV, .inl (cJ, 601, .inr (.inl fV))), (aR, .inr (5, fsaR)), (aSh, .inr (7, fsaSh)), (aD, .inr (2, fsaD))] := hD8
  have hl := lv_entry ([.ref aH]) (n := 2) (Nat.le_of_ble_eq_true rfl)
  rw [lg_entry_eq]
  generalize (lg_sl ([.ref aH]) ++ List.replicate (2 - (lg_sl ([.ref aH])).length) Slot.unset).toArray = ls at hl ⊢
  have hl : lv_has ls 2 [(0, .ref aH)] := hl
  clear hP0 hD8 hD0
  refine zH0 (fun H hP hS => ?_) hP hS
  refine lv_aload_n hx hb dX11_read_0 rfl (lv_at hl 0 rfl) ?_
  refine va_get (D := (dC, dI)) (ci := 11) (v := .ref aTk) (C := RX11) (T := TX11) (N := 13) hx hb hts in_h_read_11 hown hK hP 0 rfl rfl 1 (by decide) (hts (.fieldLink RX11 19 "LanternHouse" "tokens" "LLanternHouse$Tokens;") (by decide +kernel)) (fun _ h9 => h9) haH_1 dX11_read_1 ?_
  refine lv_aload_n hx hb dX11_read_4 rfl (lv_at hl 0 rfl) ?_
  refine va_get (D := (dC, dI)) (ci := 11) (v := .ref aT) (C := RX11) (T := TX11) (N := 13) hx hb hts in_h_read_11 hown hK hP 0 rfl rfl 0 (by decide) (hts (.fieldLink RX11 10 "LanternHouse" "tape" "LLanternHouse$Tape;") (by decide +kernel)) (fun _ h9 => h9) haH_0 dX11_read_5 ?_
  have hPc : va_P (dC, dI) vwCl (ws_c_scan cB cI cJ cZ cQ aTk aT qS qP qV fS fP fV fsaTk fsaT) H := hP.sub [2, 1, 3, 4, 5] rfl
  have hDc := hD.sub (ws' := (ws_c_scan cB cI cJ cZ cQ aTk aT qS qP qV fS fP fV fsaTk fsaT)) [2, 1, 3, 4, 5] (by decide) rfl
  have hFc := va_free (wc := (ws_c_scan cB cI cJ cZ cQ aTk aT qS qP qV fS fP fV fsaTk fsaT)) hD hS hA [2, 1, 3, 4, 5] rfl
  refine va_callv (va_runV (As := [.ref aT]) (rest := []) ⟨hx, hb, hml, hown, hts⟩ (c_scan l dC dI cB cI cJ cZ cQ aTk aT qS qP qV fS fP fV fsaTk fsaT H.size hlaTk haTk_0 haTk_1 haTk_2 hlaT haT_1) (cwV 1 hts g_h_read_c_scan_107 rfl rfl rfl (by decide +kernel) ⟨Nat.le_of_ble_eq_true rfl, Nat.le_of_ble_eq_true rfl⟩) ⟨zFB, va_recv hK hP (ci := 10) (q0 := 2) rfl rfl, fun U hU hW => zUp hU hW hPc hK hO hDc⟩ rfl rfl hl.1 rfl (lv_room (Nat.le_of_ble_eq_true rfl)) dX11_read_8 ⟨Nat.le_of_ble_eq_true rfl, Nat.le_of_ble_eq_true rfl⟩) hS (fun q _ h => hFc q h) hFc (fun u t H1 locs ht hvm hw2 hB hz1 hk1 hS => ?_)
  obtain ⟨fS23, gs4, gs5, hgl6, hgf7, hgl8, hgf9, hk10, hP1, hD1⟩ := hB
  rw [ht] at hP1
  obtain ⟨hP, hD⟩ := va_join (wr := [(aH, .inr (11, fsaH)), (aR, .inr (5, fsaR)), (aSh, .inr (7, fsaSh)), (aD, .inr (2, fsaD))]) (w1 := [(aTk, .inr (10, gs4)), (aT, .inr (9, gs5)), (qS, .inl (cI, 601, .inl fS23))]) hP hD [2, 1, 3, 4, 5] [0, 6, 7, 8] rfl rfl (by decide) (by decide) hk1 hFc hP1 hD1
  generalize H1 = H at hP hS ⊢
  have hP : va_P (dC, dI) vwCl [(aH, .inr (11, fsaH)), (aR, .inr (5, fsaR)), (aSh, .inr (7, fsaSh)), (aD, .inr (2, fsaD)), (aTk, .inr (10, gs4)), (aT, .inr (9, gs5)), (qS, .inl (cI, 601, .inl fS23))] H := hP
  have hD : va_D A [(aH, .inr (11, fsaH)), (aR, .inr (5, fsaR)), (aSh, .inr (7, fsaSh)), (aD, .inr (2, fsaD)), (aTk, .inr (10, gs4)), (aT, .inr (9, gs5)), (qS, .inl (cI, 601, .inl fS23))] := hD
  refine lv_aload_n hx hb dX11_read_11 rfl (lv_at hl 0 rfl) ?_
  refine va_get (D := (dC, dI)) (ci := 11) (v := .ref aT) (C := RX11) (T := TX11) (N := 13) hx hb hts in_h_read_11 hown hK hP 0 rfl rfl 0 (by decide) (hts (.fieldLink RX11 10 "LanternHouse" "tape" "LLanternHouse$Tape;") (by decide +kernel)) (fun _ h9 => h9) haH_0 dX11_read_12 ?_
  refine lv_iconst (v := 0) hx hb dX11_read_15 (by decide) ?_
  refine va_put (D := (dC, dI)) (ci := 9) (v := .int 0) (ty := .int) (C := RX9) (T := TX9) (N := 2) hx hb hts in_h_read_9 tyX9 tyX9_ok nmX9 hown hK hP hD hS 5 rfl rfl 1 (by decide) (hts (.fieldLink RX11 99 "LanternHouse$Tape" "length" "I") (by decide +kernel)) (fun _ h9 => h9) rfl (by decide +kernel) rfl rfl (by rw [hgl8]; decide) dX11_read_16 (fun H locs hP hD hS => ?_)
  have hP : va_P (dC, dI) vwCl [(aH, .inr (11, fsaH)), (aR, .inr (5, fsaR)), (aSh, .inr (7, fsaSh)), (aD, .inr (2, fsaD)), (aTk, .inr (10, gs4)), (aT, .inr (9, (List.set gs5 1 (.int 0)))), (qS, .inl (cI, 601, .inl fS23))] H := hP
  have hD : va_D A [(aH, .inr (11, fsaH)), (aR, .inr (5, fsaR)), (aSh, .inr (7, fsaSh)), (aD, .inr (2, fsaD)), (aTk, .inr (10, gs4)), (aT, .inr (9, (List.set gs5 1 (.int 0)))), (qS, .inl (cI, 601, .inl fS23))] := hD
  refine lv_aload_n hx hb dX11_read_19 rfl (lv_at hl 0 rfl) ?_
  refine va_get (D := (dC, dI)) (ci := 11) (v := .ref aR) (C := RX11) (T := TX11) (N := 13) hx hb hts in_h_read_11 hown hK hP 0 rfl rfl 2 (by decide) (hts (.fieldLink RX11 28 "LanternHouse" "reader" "LLanternHouse$Reader;") (by decide +kernel)) (fun _ h9 => h9) haH_2 dX11_read_20 ?_
  refine lv_aload_n hx hb dX11_read_23 rfl (lv_at hl 0 rfl) ?_
  refine va_get (D := (dC, dI)) (ci := 11) (v := .ref aD) (C := RX11) (T := TX11) (N := 13) hx hb hts in_h_read_11 hown hK hP 0 rfl rfl 9 (by decide) (hts (.fieldLink RX11 81 "LanternHouse" "draft" "LLanternHouse$Lectures;") (by decide +kernel)) (fun _ h9 => h9) haH_9 dX11_read_24 ?_
  have hPc : va_P (dC, dI) vwCl (ws_c_parse cB cI cJ cZ cQ aR aTk qS aD fS23 fsaR gs4 fsaD) H := hP.sub [1, 4, 6, 3] rfl
  have hDc := hD.sub (ws' := (ws_c_parse cB cI cJ cZ cQ aR aTk qS aD fS23 fsaR gs4 fsaD)) [1, 4, 6, 3] (by decide) rfl
  have hFc := va_free (wc := (ws_c_parse cB cI cJ cZ cQ aR aTk qS aD fS23 fsaR gs4 fsaD)) hD hS hA [1, 4, 6, 3] rfl
  refine va_callv (va_runV (As := [.ref aD]) (rest := []) ⟨hx, hb, hml, hown, hts⟩ (c_parse l dC dI cB cI cJ cZ cQ aR aTk qS aD fS23 fsaR gs4 fsaD H.size hk10 hlaR haR_0 hgl6 ((hgf7 0 (by decide)).trans haTk_0) hlaD) (cwV 1 hts g_h_read_c_parse_111 rfl rfl rfl (by decide +kernel) ⟨Nat.le_of_ble_eq_true rfl, Nat.le_of_ble_eq_true rfl⟩) ⟨zFB, va_recv hK hP (ci := 5) (q0 := 1) rfl rfl, fun U hU hW => zUp hU hW hPc hK hO hDc⟩ rfl rfl hl.1 rfl (lv_room (Nat.le_of_ble_eq_true rfl)) dX11_read_27 ⟨Nat.le_of_ble_eq_true rfl, Nat.le_of_ble_eq_true rfl⟩) hS (fun q _ h => hFc q h) hFc (fun u t H1 locs ht hvm hw12 hB hz1 hk1 hS => ?_)
  obtain ⟨gs13, hgl14, hgf15, hgk16, hP1, hD1⟩ := hB
  rw [ht] at hP1
  obtain ⟨hP, hD⟩ := va_join (wr := [(aH, .inr (11, fsaH)), (aSh, .inr (7, fsaSh)), (aT, .inr (9, (List.set gs5 1 (.int 0))))]) (w1 := [(aR, .inr (5, gs13))]) hP hD [1, 4, 6, 3] [0, 2, 5] rfl rfl (by decide) (by decide) hk1 hFc hP1 hD1
  generalize H1 = H at hP hS ⊢
  have hP : va_P (dC, dI) vwCl [(aH, .inr (11, fsaH)), (aSh, .inr (7, fsaSh)), (aT, .inr (9, (List.set gs5 1 (.int 0)))), (aR, .inr (5, gs13))] H := hP
  have hD : va_D A [(aH, .inr (11, fsaH)), (aSh, .inr (7, fsaSh)), (aT, .inr (9, (List.set gs5 1 (.int 0)))), (aR, .inr (5, gs13))] := hD
  refine lv_aload_n hx hb dX11_read_30 rfl (lv_at hl 0 rfl) ?_
  refine va_get (D := (dC, dI)) (ci := 11) (v := .ref aR) (C := RX11) (T := TX11) (N := 13) hx hb hts in_h_read_11 hown hK hP 0 rfl rfl 2 (by decide) (hts (.fieldLink RX11 28 "LanternHouse" "reader" "LLanternHouse$Reader;") (by decide +kernel)) (fun _ h9 => h9) haH_2 dX11_read_31 ?_
  refine va_get (D := (dC, dI)) (ci := 5) (v := .int 0) (C := RX5) (T := TX5) (N := 11) hx hb hts in_h_read_5 hown hK hP 3 rfl rfl 7 (by decide) (hts (.fieldLink RX11 114 "LanternHouse$Reader" "fault" "I") (by decide +kernel)) (fun _ h9 => h9) hgk16 dX11_read_34 ?_
  refine lv_if_ne (tgt := 69) hx hb dX11_read_37 (by decide) (fun zc => absurd zc (by decide)) (fun _ => ?_)
  refine lv_aload_n hx hb dX11_read_40 rfl (lv_at hl 0 rfl) ?_
  refine va_get (D := (dC, dI)) (ci := 11) (v := .ref aSh) (C := RX11) (T := TX11) (N := 13) hx hb hts in_h_read_11 hown hK hP 0 rfl rfl 6 (by decide) (hts (.fieldLink RX11 61 "LanternHouse" "shows" "LLanternHouse$Shows;") (by decide +kernel)) (fun _ h9 => h9) haH_6 dX11_read_41 ?_
  refine va_get (D := (dC, dI)) (ci := 7) (v := .ref aX) (C := RX7) (T := TX7) (N := 8) hx hb hts in_h_read_7 hown hK hP 1 rfl rfl 7 (by decide) (hts (.fieldLink RX11 117 "LanternHouse$Shows" "text" "LLanternHouse$Lectures;") (by decide +kernel)) (fun _ h9 => h9) haSh_7 dX11_read_44 ?_
  refine lv_astore_n (lv' := [(1, .ref aX), (0, .ref aH)]) hx hb dX11_read_47 rfl hl (by decide) rfl (fun ls hl => ?_)
  refine lv_aload_n hx hb dX11_read_48 rfl (lv_at hl 1 rfl) ?_
  refine va_get (D := (dC, dI)) (ci := 11) (v := .ref aSh) (C := RX11) (T := TX11) (N := 13) hx hb hts in_h_read_11 hown hK hP 0 rfl rfl 6 (by decide) (hts (.fieldLink RX11 61 "LanternHouse" "shows" "LLanternHouse$Shows;") (by decide +kernel)) (fun _ h9 => h9) haH_6 dX11_read_49 ?_
  refine lv_aload_n hx hb dX11_read_52 rfl (lv_at hl 1 rfl) ?_
  refine va_get (D := (dC, dI)) (ci := 11) (v := .ref aD) (C := RX11) (T := TX11) (N := 13) hx hb hts in_h_read_11 hown hK hP 0 rfl rfl 9 (by decide) (hts (.fieldLink RX11 81 "LanternHouse" "draft" "LLanternHouse$Lectures;") (by decide +kernel)) (fun _ h9 => h9) haH_9 dX11_read_53 ?_
  have hPc : va_P (dC, dI) vwCl (ws_c_startOver cB cI cJ cZ cQ aSh aD fsaSh) H := hP.sub [1] rfl
  have hDc := hD.sub (ws' := (ws_c_startOver cB cI cJ cZ cQ aSh aD fsaSh)) [1] (by decide) rfl
  have hFc := va_free (wc := (ws_c_startOver cB cI cJ cZ cQ aSh aD fsaSh)) hD hS hA [1] rfl
  refine va_callv (va_runV (As := [.ref aD]) (rest := []) ⟨hx, hb, hml, hown, hts⟩ (c_startOver l dC dI cB cI cJ cZ cQ aSh aD fsaSh H.size hlaSh) (cwV 1 hts g_h_read_c_startOver_120 rfl rfl rfl (by decide +kernel) ⟨Nat.le_of_ble_eq_true rfl, Nat.le_of_ble_eq_true rfl⟩) ⟨zFB, va_recv hK hP (ci := 7) (q0 := 1) rfl rfl, fun U hU hW => zUp hU hW hPc hK hO hDc⟩ rfl rfl hl.1 rfl (lv_room (Nat.le_of_ble_eq_true rfl)) dX11_read_56 ⟨Nat.le_of_ble_eq_true rfl, Nat.le_of_ble_eq_true rfl⟩) hS (fun q _ h => hFc q h) hFc (fun u t H1 locs ht hvm hw18 hB hz1 hk1 hS => ?_)
  have hP1 : va_P (dC, dI) vwCl [] H1 := zNilP
  have hD1 : va_D (va_A (ws_c_startOver cB cI cJ cZ cQ aSh aD fsaSh) H.size) [] := zNilD
  obtain ⟨hP, hD⟩ := va_join (wr := [(aH, .inr (11, fsaH)), (aT, .inr (9, (List.set gs5 1 (.int 0)))), (aR, .inr (5, gs13))]) (w1 := []) hP hD [1] [0, 2, 3] rfl rfl (by decide) (by decide) hk1 hFc hP1 hD1
  generalize H1 = H at hP hS ⊢
  have hP : va_P (dC, dI) vwCl [(aH, .inr (11, fsaH)), (aT, .inr (9, (List.set gs5 1 (.int 0)))), (aR, .inr (5, gs13))] H := hP
  have hD : va_D A [(aH, .inr (11, fsaH)), (aT, .inr (9, (List.set gs5 1 (.int 0)))), (aR, .inr (5, gs13))] := hD
  refine lv_aload_n hx hb dX11_read_59 rfl (lv_at hl 1 rfl) ?_
  refine lv_aload_n hx hb dX11_read_60 rfl (lv_at hl 0 rfl) ?_
  refine va_put (D := (dC, dI)) (ci := 11) (v := .ref aX) (ty := .object "LanternHouse$Lectures") (C := RX11) (T := TX11) (N := 13) hx hb hts in_h_read_11 tyX11 tyX11_ok nmX11 hown hK hP hD hS 0 rfl rfl 9 (by decide) (hts (.fieldLink RX11 81 "LanternHouse" "draft" "LLanternHouse$Lectures;") (by decide +kernel)) (fun _ h9 => h9) rfl (by decide +kernel) rfl rfl (by rw [hlaH]; decide) dX11_read_61 (fun H locs hP hD hS => ?_)
  have hP : va_P (dC, dI) vwCl [(aH, .inr (11, (List.set fsaH 9 (.ref aX)))), (aT, .inr (9, (List.set gs5 1 (.int 0)))), (aR, .inr (5, gs13))] H := hP
  have hD : va_D A [(aH, .inr (11, (List.set fsaH 9 (.ref aX)))), (aT, .inr (9, (List.set gs5 1 (.int 0)))), (aR, .inr (5, gs13))] := hD
  refine lv_aload_n hx hb dX11_read_64 rfl (lv_at hl 1 rfl) ?_
  refine lv_iconst (v := 0) hx hb dX11_read_65 (by decide) ?_
  refine va_put (D := (dC, dI)) (ci := 11) (v := .int 0) (ty := .boolean) (C := RX11) (T := TX11) (N := 13) hx hb hts in_h_read_11 tyX11 tyX11_ok nmX11 hown hK hP hD hS 0 rfl rfl 12 (by decide) (hts (.fieldLink RX11 95 "LanternHouse" "isMade" "Z") (by decide +kernel)) (fun _ h9 => h9) rfl (by decide +kernel) rfl rfl (by rw [(zset_len hlaH)]; decide) dX11_read_66 (fun H locs hP hD hS => ?_)
  have hP : va_P (dC, dI) vwCl [(aH, .inr (11, (List.set (List.set fsaH 9 (.ref aX)) 12 (.int 0)))), (aT, .inr (9, (List.set gs5 1 (.int 0)))), (aR, .inr (5, gs13))] H := hP
  have hD : va_D A [(aH, .inr (11, (List.set (List.set fsaH 9 (.ref aX)) 12 (.int 0)))), (aT, .inr (9, (List.set gs5 1 (.int 0)))), (aR, .inr (5, gs13))] := hD
  refine lv_aload_n hx hb dX11_read_69 rfl (lv_at hl 1 rfl) ?_
  refine va_get (D := (dC, dI)) (ci := 11) (v := .ref aR) (C := RX11) (T := TX11) (N := 13) hx hb hts in_h_read_11 hown hK hP 0 rfl rfl 2 (by decide) (hts (.fieldLink RX11 28 "LanternHouse" "reader" "LLanternHouse$Reader;") (by decide +kernel)) (fun _ h9 => h9) (zset_ne (by decide) (zset_ne (by decide) haH_2)) dX11_read_70 ?_
  refine va_get (D := (dC, dI)) (ci := 5) (v := .int 0) (C := RX5) (T := TX5) (N := 11) hx hb hts in_h_read_5 hown hK hP 2 rfl rfl 7 (by decide) (hts (.fieldLink RX11 114 "LanternHouse$Reader" "fault" "I") (by decide +kernel)) (fun _ h9 => h9) hgk16 dX11_read_73 ?_
  exact W.iret (v := 0) hx hb hr (fun t ht hW => ⟨⟨0, (), rfl, rfl, trivial⟩, hS.F ht⟩) hS.2.2 dX11_read_76

def zs_h_place : List Cond := .code yX11_place cX11_place 1 (some .int) :: (([.fieldLink RX11 28 "LanternHouse" "reader" "LLanternHouse$Reader;", .fieldLink RX11 123 "LanternHouse$Reader" "faultPlace" "I"] : List Cond) ++ (wsX110 ++ (wsX50 ++ [])))
theorem gd_h_place : (zs_h_place).all goodWord = true := by decide +kernel
theorem in_h_place_11 : ∀ w ∈ wsX110, w ∈ zs_h_place := fun w h => List.mem_cons_of_mem _ (List.mem_append_right _ (List.mem_append_left _ h))
theorem in_h_place_5 : ∀ w ∈ wsX50, w ∈ zs_h_place := fun w h => List.mem_cons_of_mem _ (List.mem_append_right _ (List.mem_append_right _ (List.mem_append_left _ h)))
abbrev ws_h_place (cB cI cJ cZ cQ : ClassId) (aH aR : Nat) (fsaH : List Value) (fsaR : List Value) : va_W := [(aH, .inr (11, fsaH)), (aR, .inr (5, fsaR))]
set_option maxHeartbeats 4000000 in
set_option maxRecDepth 100000 in
theorem h_place (l : Launch) (dC : Nat → ClassId) (dI : Nat → Nat → Nat) (cB cI cJ cZ cQ : ClassId) (aH aR : Nat) (fsaH : List Value) (fsaR : List Value) (sz : Nat) (hlaH : fsaH.length = 13) (haH_2 : fsaH[2]? = some (.ref aR)) (hlaR : fsaR.length = 11) (haR_8 : fsaR[8]? = some (.int (-1))) : Met l yX11_place zs_h_place ({ frames := 0, cells := 0, slots := 0, locals := 0 } : Room) (zPc [.ref aH] (dC, dI) (zTY cB cI cJ cZ cQ) (ws_h_place cB cI cJ cZ cQ aH aR fsaH fsaR) sz) (va_Qi (fun (zr : Int32) (_ : Unit) => zr = (-1)) (fun (_ : Unit) (_ : State) => True) (va_A (ws_h_place cB cI cJ cZ cQ aH aR fsaH fsaR) sz)) 0 0 (va_A (ws_h_place cB cI cJ cZ cQ aH aR fsaH fsaR) sz) := by
  refine Met.ofW (cc := cX11_place) (maxL := 1) (ret := (some .int)) (by decide) rfl ?_
  intro p e s m args below meth c s₁ B hml hv
  obtain ⟨rfl, hsz, hP0, hK, hO, hD0⟩ := hv
  have hx := B.exec
  have hb := B.bytes
  have hr := B.returns
  have hts := atoms_spec (ws := zs_h_place) B.pre
  have hown : s.vm.findClass RX11 = some m.cls := findClass_of_methodNamed B.named
  have hlocks := B.notSynchronized
  subst hsz
  have hD8 := hD0.self (sz := s.heap.size)
  generalize hAe : va_A (ws_h_place cB cI cJ cZ cQ aH aR fsaH fsaR) s.heap.size = A at hD8 ⊢
  have hA : ∀ q : Nat, s.heap.size ≤ q → A q := fun q h => by rw [← hAe]; exact Or.inr h
  have hS : va_S A s.heap s.heap [] := va_S.rf
  have hP : va_P (dC, dI) vwCl [(aH, .inr (11, fsaH)), (aR, .inr (5, fsaR))] s.heap := hP0
  have hD : va_D A [(aH, .inr (11, fsaH)), (aR, .inr (5, fsaR))] := hD8
  have hl := lv_entry ([.ref aH]) (n := 1) (Nat.le_of_ble_eq_true rfl)
  rw [lg_entry_eq]
  generalize (lg_sl ([.ref aH]) ++ List.replicate (1 - (lg_sl ([.ref aH])).length) Slot.unset).toArray = ls at hl ⊢
  have hl : lv_has ls 1 [(0, .ref aH)] := hl
  clear hP0 hD8 hD0
  refine zH0 (fun H hP hS => ?_) hP hS
  refine lv_aload_n hx hb dX11_place_0 rfl (lv_at hl 0 rfl) ?_
  refine va_get (D := (dC, dI)) (ci := 11) (v := .ref aR) (C := RX11) (T := TX11) (N := 13) hx hb hts in_h_place_11 hown hK hP 0 rfl rfl 2 (by decide) (hts (.fieldLink RX11 28 "LanternHouse" "reader" "LLanternHouse$Reader;") (by decide +kernel)) (fun _ h9 => h9) haH_2 dX11_place_1 ?_
  refine va_get (D := (dC, dI)) (ci := 5) (v := .int (-1)) (C := RX5) (T := TX5) (N := 11) hx hb hts in_h_place_5 hown hK hP 1 rfl rfl 8 (by decide) (hts (.fieldLink RX11 123 "LanternHouse$Reader" "faultPlace" "I") (by decide +kernel)) (fun _ h9 => h9) haR_8 dX11_place_4 ?_
  exact W.iret (v := (-1)) hx hb hr (fun t ht hW => ⟨⟨(-1), (), rfl, rfl, trivial⟩, hS.F ht⟩) hS.2.2 dX11_place_7

def zs_h_hall : List Cond := .code yX11_hall cX11_hall 1 (some .int) :: (([.fieldLink RX11 35 "LanternHouse" "rails" "LLanternHouse$Rails;", .methodLink RX11 126 yX4_addHall, .instanceMethod yX4_addHall, .selects RX4 yX4_addHall yX4_addHall, .initialized RX4] : List Cond) ++ (zs_c_addHall ++ (wsX110 ++ [])))
theorem gd_h_hall : (zs_h_hall).all goodWord = true := by decide +kernel
theorem in_h_hall_11 : ∀ w ∈ wsX110, w ∈ zs_h_hall := fun w h => List.mem_cons_of_mem _ (List.mem_append_right _ (List.mem_append_right _ (List.mem_append_left _ h)))
theorem g_h_hall_c_addHall_126 : GoodIn zs_h_hall (wsV RX11 126 RX4 yX4_addHall zs_c_addHall) := goodIn_app (goodIn_of _ (by decide +kernel)) (goodIn_sub (fun w h => List.mem_cons_of_mem _ (List.mem_append_right _ (List.mem_append_left _ h))) gd_c_addHall)
abbrev ws_h_hall (cB cI cJ cZ cQ : ClassId) (aH aRa : Nat) (fsaH : List Value) (fsaRa : List Value) : va_W := [(aH, .inr (11, fsaH)), (aRa, .inr (4, fsaRa))]
set_option maxHeartbeats 4000000 in
set_option maxRecDepth 100000 in
theorem h_hall (l : Launch) (dC : Nat → ClassId) (dI : Nat → Nat → Nat) (cB cI cJ cZ cQ : ClassId) (aH aRa : Nat) (fsaH : List Value) (fsaRa : List Value) (sz : Nat) (hlaH : fsaH.length = 13) (haH_3 : fsaH[3]? = some (.ref aRa)) (hlaRa : fsaRa.length = 8) (haRa_6 : fsaRa[6]? = some (.int 1)) : Met l yX11_hall zs_h_hall ({ frames := 1, cells := 0, slots := 0, locals := 20 } : Room) (zPc [.ref aH] (dC, dI) (zTY cB cI cJ cZ cQ) (ws_h_hall cB cI cJ cZ cQ aH aRa fsaH fsaRa) sz) (va_Qi (fun (zr : Int32) (_ : Unit) => zr = 1) (fun (_ : Unit) (_ : State) => True) (va_A (ws_h_hall cB cI cJ cZ cQ aH aRa fsaH fsaRa) sz)) 0 0 (va_A (ws_h_hall cB cI cJ cZ cQ aH aRa fsaH fsaRa) sz) := by
  refine Met.ofW (cc := cX11_hall) (maxL := 1) (ret := (some .int)) (by decide) rfl ?_
  intro p e s m args below meth c s₁ B hml hv
  obtain ⟨rfl, hsz, hP0, hK, hO, hD0⟩ := hv
  have hx := B.exec
  have hb := B.bytes
  have hr := B.returns
  have hts := atoms_spec (ws := zs_h_hall) B.pre
  have hown : s.vm.findClass RX11 = some m.cls := findClass_of_methodNamed B.named
  have hlocks := B.notSynchronized
  subst hsz
  have hD8 := hD0.self (sz := s.heap.size)
  generalize hAe : va_A (ws_h_hall cB cI cJ cZ cQ aH aRa fsaH fsaRa) s.heap.size = A at hD8 ⊢
  have hA : ∀ q : Nat, s.heap.size ≤ q → A q := fun q h => by rw [← hAe]; exact Or.inr h
  have hS : va_S A s.heap s.heap [] := va_S.rf
  have hP : va_P (dC, dI) vwCl [(aH, .inr (11, fsaH)), (aRa, .inr (4, fsaRa))] s.heap := hP0
  have hD : va_D A [(aH, .inr (11, fsaH)), (aRa, .inr (4, fsaRa))] := hD8
  have hl := lv_entry ([.ref aH]) (n := 1) (Nat.le_of_ble_eq_true rfl)
  rw [lg_entry_eq]
  generalize (lg_sl ([.ref aH]) ++ List.replicate (1 - (lg_sl ([.ref aH])).length) Slot.unset).toArray = ls at hl ⊢
  have hl : lv_has ls 1 [(0, .ref aH)] := hl
  clear hP0 hD8 hD0
  refine zH0 (fun H hP hS => ?_) hP hS
  refine lv_aload_n hx hb dX11_hall_0 rfl (lv_at hl 0 rfl) ?_
  refine va_get (D := (dC, dI)) (ci := 11) (v := .ref aRa) (C := RX11) (T := TX11) (N := 13) hx hb hts in_h_hall_11 hown hK hP 0 rfl rfl 3 (by decide) (hts (.fieldLink RX11 35 "LanternHouse" "rails" "LLanternHouse$Rails;") (by decide +kernel)) (fun _ h9 => h9) haH_3 dX11_hall_1 ?_
  have hPc : va_P (dC, dI) vwCl (ws_c_addHall cB cI cJ cZ cQ aRa fsaRa) H := hP.sub [1] rfl
  have hDc := hD.sub (ws' := (ws_c_addHall cB cI cJ cZ cQ aRa fsaRa)) [1] (by decide) rfl
  have hFc := va_free (wc := (ws_c_addHall cB cI cJ cZ cQ aRa fsaRa)) hD hS hA [1] rfl
  refine va_calli (va_runV (As := []) (rest := []) ⟨hx, hb, hml, hown, hts⟩ (c_addHall l dC dI cB cI cJ cZ cQ aRa fsaRa H.size hlaRa haRa_6) (cwV 0 hts g_h_hall_c_addHall_126 rfl rfl rfl (by decide +kernel) ⟨Nat.le_of_ble_eq_true rfl, Nat.le_of_ble_eq_true rfl⟩) ⟨zFB, va_recv hK hP (ci := 4) (q0 := 1) rfl rfl, fun U hU hW => zUp hU hW hPc hK hO hDc⟩ rfl rfl hl.1 rfl (lv_room (Nat.le_of_ble_eq_true rfl)) dX11_hall_4 ⟨Nat.le_of_ble_eq_true rfl, Nat.le_of_ble_eq_true rfl⟩) hS (fun q _ h => hFc q h) hFc (fun r1 u t H1 locs ht hvm hw2 hB hz1 hk1 hS => ?_)
  have hP1 : va_P (dC, dI) vwCl [] H1 := zNilP
  have hD1 : va_D (va_A (ws_c_addHall cB cI cJ cZ cQ aRa fsaRa) H.size) [] := zNilD
  obtain ⟨hP, hD⟩ := va_join (wr := [(aH, .inr (11, fsaH))]) (w1 := []) hP hD [1] [0] rfl rfl (by decide) (by decide) hk1 hFc hP1 hD1
  generalize H1 = H at hP hS ⊢
  have hP : va_P (dC, dI) vwCl [(aH, .inr (11, fsaH))] H := hP
  have hD : va_D A [(aH, .inr (11, fsaH))] := hD
  obtain rfl : r1 = 1 := hw2
  exact W.iret (v := 1) hx hb hr (fun t ht hW => ⟨⟨1, (), rfl, rfl, trivial⟩, hS.F ht⟩) hS.2.2 dX11_hall_7

def zs_h_train : List Cond := .code yX11_train cX11_train 5 (some .int) :: (([.fieldLink RX11 35 "LanternHouse" "rails" "LLanternHouse$Rails;", .methodLink RX11 130 yX4_addTrain, .instanceMethod yX4_addTrain, .selects RX4 yX4_addTrain yX4_addTrain, .initialized RX4] : List Cond) ++ (zs_c_addTrain ++ (wsX110 ++ [])))
theorem gd_h_train : (zs_h_train).all goodWord = true := by decide +kernel
theorem in_h_train_11 : ∀ w ∈ wsX110, w ∈ zs_h_train := fun w h => List.mem_cons_of_mem _ (List.mem_append_right _ (List.mem_append_right _ (List.mem_append_left _ h)))
theorem g_h_train_c_addTrain_130 : GoodIn zs_h_train (wsV RX11 130 RX4 yX4_addTrain zs_c_addTrain) := goodIn_app (goodIn_of _ (by decide +kernel)) (goodIn_sub (fun w h => List.mem_cons_of_mem _ (List.mem_append_right _ (List.mem_append_left _ h))) gd_c_addTrain)
abbrev ws_h_train (cB cI cJ cZ cQ : ClassId) (aH aRa : Nat) (iFr : Int32) (iTo : Int32) (iHr : Int32) (iTa : Int32) (fsaH : List Value) (fsaRa : List Value) : va_W := [(aH, .inr (11, fsaH)), (aRa, .inr (4, fsaRa))]
set_option maxHeartbeats 4000000 in
set_option maxRecDepth 100000 in
theorem h_train (l : Launch) (dC : Nat → ClassId) (dI : Nat → Nat → Nat) (cB cI cJ cZ cQ : ClassId) (aH aRa : Nat) (iFr : Int32) (iTo : Int32) (iHr : Int32) (iTa : Int32) (fsaH : List Value) (fsaRa : List Value) (sz : Nat) (hlaH : fsaH.length = 13) (haH_3 : fsaH[3]? = some (.ref aRa)) (hlaRa : fsaRa.length = 8) (haRa_6 : fsaRa[6]? = some (.int 1)) (haRa_7 : fsaRa[7]? = some (.int 0)) : Met l yX11_train zs_h_train ({ frames := 2, cells := 0, slots := 0, locals := 45 } : Room) (zPc [.ref aH, .int iFr, .int iTo, .int iHr, .int iTa] (dC, dI) (zTY cB cI cJ cZ cQ) (ws_h_train cB cI cJ cZ cQ aH aRa iFr iTo iHr iTa fsaH fsaRa) sz) (va_Qi (fun (zr : Int32) (_ : Unit) => zr = (-1)) (fun (_ : Unit) (_ : State) => True) (va_A (ws_h_train cB cI cJ cZ cQ aH aRa iFr iTo iHr iTa fsaH fsaRa) sz)) 0 0 (va_A (ws_h_train cB cI cJ cZ cQ aH aRa iFr iTo iHr iTa fsaH fsaRa) sz) := by
  refine Met.ofW (cc := cX11_train) (maxL := 5) (ret := (some .int)) (by decide) rfl ?_
  intro p e s m args below meth c s₁ B hml hv
  obtain ⟨rfl, hsz, hP0, hK, hO, hD0⟩ := hv
  have hx := B.exec
  have hb := B.bytes
  have hr := B.returns
  have hts := atoms_spec (ws := zs_h_train) B.pre
  have hown : s.vm.findClass RX11 = some m.cls := findClass_of_methodNamed B.named
  have hlocks := B.notSynchronized
  subst hsz
  have hD8 := hD0.self (sz := s.heap.size)
  generalize hAe : va_A (ws_h_train cB cI cJ cZ cQ aH aRa iFr iTo iHr iTa fsaH fsaRa) s.heap.size = A at hD8 ⊢
  have hA : ∀ q : Nat, s.heap.size ≤ q → A q := fun q h => by rw [← hAe]; exact Or.inr h
  have hS : va_S A s.heap s.heap [] := va_S.rf
  have hP : va_P (dC, dI) vwCl [(aH, .inr (11, fsaH)), (aRa, .inr (4, fsaRa))] s.heap := hP0
  have hD : va_D A [(aH, .inr (11, fsaH)), (aRa, .inr (4, fsaRa))] := hD8
  have hl := lv_entry ([.ref aH, .int iFr, .int iTo, .int iHr, .int iTa]) (n := 5) (Nat.le_of_ble_eq_true rfl)
  rw [lg_entry_eq]
  generalize (lg_sl ([.ref aH, .int iFr, .int iTo, .int iHr, .int iTa]) ++ List.replicate (5 - (lg_sl ([.ref aH, .int iFr, .int iTo, .int iHr, .int iTa])).length) Slot.unset).toArray = ls at hl ⊢
  have hl : lv_has ls 5 [(0, .ref aH), (1, .int iFr), (2, .int iTo), (3, .int iHr), (4, .int iTa)] := hl
  clear hP0 hD8 hD0
  refine zH0 (fun H hP hS => ?_) hP hS
  refine lv_aload_n hx hb dX11_train_0 rfl (lv_at hl 0 rfl) ?_
  refine va_get (D := (dC, dI)) (ci := 11) (v := .ref aRa) (C := RX11) (T := TX11) (N := 13) hx hb hts in_h_train_11 hown hK hP 0 rfl rfl 3 (by decide) (hts (.fieldLink RX11 35 "LanternHouse" "rails" "LLanternHouse$Rails;") (by decide +kernel)) (fun _ h9 => h9) haH_3 dX11_train_1 ?_
  refine lv_iload_n hx hb dX11_train_4 rfl (lv_at hl 1 rfl) ?_
  refine lv_iload_n hx hb dX11_train_5 rfl (lv_at hl 2 rfl) ?_
  refine lv_iload_n hx hb dX11_train_6 rfl (lv_at hl 3 rfl) ?_
  refine lv_iload hx hb dX11_train_7 (lv_at hl 4 rfl) ?_
  have hPc : va_P (dC, dI) vwCl (ws_c_addTrain cB cI cJ cZ cQ aRa iFr iTo iHr iTa fsaRa) H := hP.sub [1] rfl
  have hDc := hD.sub (ws' := (ws_c_addTrain cB cI cJ cZ cQ aRa iFr iTo iHr iTa fsaRa)) [1] (by decide) rfl
  have hFc := va_free (wc := (ws_c_addTrain cB cI cJ cZ cQ aRa iFr iTo iHr iTa fsaRa)) hD hS hA [1] rfl
  refine va_calli (va_runV (As := [.int iFr, .int iTo, .int iHr, .int iTa]) (rest := []) ⟨hx, hb, hml, hown, hts⟩ (c_addTrain l dC dI cB cI cJ cZ cQ aRa iFr iTo iHr iTa fsaRa H.size hlaRa haRa_6 haRa_7) (cwV 4 hts g_h_train_c_addTrain_130 rfl rfl rfl (by decide +kernel) ⟨Nat.le_of_ble_eq_true rfl, Nat.le_of_ble_eq_true rfl⟩) ⟨zFB, va_recv hK hP (ci := 4) (q0 := 1) rfl rfl, fun U hU hW => zUp hU hW hPc hK hO hDc⟩ rfl rfl hl.1 rfl (lv_room (Nat.le_of_ble_eq_true rfl)) dX11_train_9 ⟨Nat.le_of_ble_eq_true rfl, Nat.le_of_ble_eq_true rfl⟩) hS (fun q _ h => hFc q h) hFc (fun r1 u t H1 locs ht hvm hw2 hB hz1 hk1 hS => ?_)
  have hP1 : va_P (dC, dI) vwCl [] H1 := zNilP
  have hD1 : va_D (va_A (ws_c_addTrain cB cI cJ cZ cQ aRa iFr iTo iHr iTa fsaRa) H.size) [] := zNilD
  obtain ⟨hP, hD⟩ := va_join (wr := [(aH, .inr (11, fsaH))]) (w1 := []) hP hD [1] [0] rfl rfl (by decide) (by decide) hk1 hFc hP1 hD1
  generalize H1 = H at hP hS ⊢
  have hP : va_P (dC, dI) vwCl [(aH, .inr (11, fsaH))] H := hP
  have hD : va_D A [(aH, .inr (11, fsaH))] := hD
  obtain rfl : r1 = (-1) := hw2
  exact W.iret (v := (-1)) hx hb hr (fun t ht hW => ⟨⟨(-1), (), rfl, rfl, trivial⟩, hS.F ht⟩) hS.2.2 dX11_train_12

def zs_h_plate : List Cond := .code yX11_plate cX11_plate 2 (some .int) :: (([.fieldLink RX11 42 "LanternHouse" "stock" "LLanternHouse$Stock;", .methodLink RX11 134 yX8_add, .instanceMethod yX8_add, .selects RX8 yX8_add yX8_add, .initialized RX8] : List Cond) ++ (zs_c_sadd ++ (wsX110 ++ [])))
theorem gd_h_plate : (zs_h_plate).all goodWord = true := by decide +kernel
theorem in_h_plate_11 : ∀ w ∈ wsX110, w ∈ zs_h_plate := fun w h => List.mem_cons_of_mem _ (List.mem_append_right _ (List.mem_append_right _ (List.mem_append_left _ h)))
theorem g_h_plate_c_sadd_134 : GoodIn zs_h_plate (wsV RX11 134 RX8 yX8_add zs_c_sadd) := goodIn_app (goodIn_of _ (by decide +kernel)) (goodIn_sub (fun w h => List.mem_cons_of_mem _ (List.mem_append_right _ (List.mem_append_left _ h))) gd_c_sadd)
abbrev ws_h_plate (cB cI cJ cZ cQ : ClassId) (aH aS qK qPk : Nat) (iK : Int32) (fK : Nat → Int32) (fPk : Nat → Int32) (fsaH : List Value) (fsaS : List Value) : va_W := [(aH, .inr (11, fsaH)), (aS, .inr (8, fsaS)), (qK, .inl (cI, 20, .inl fK)), (qPk, .inl (cI, 30, .inl fPk))]
set_option maxHeartbeats 4000000 in
set_option maxRecDepth 100000 in
theorem h_plate (l : Launch) (dC : Nat → ClassId) (dI : Nat → Nat → Nat) (cB cI cJ cZ cQ : ClassId) (aH aS qK qPk : Nat) (iK : Int32) (fK : Nat → Int32) (fPk : Nat → Int32) (fsaH : List Value) (fsaS : List Value) (sz : Nat) (hlaH : fsaH.length = 13) (haH_4 : fsaH[4]? = some (.ref aS)) (hlaS : fsaS.length = 3) (haS_0 : fsaS[0]? = some (.ref qK)) (haS_1 : fsaS[1]? = some (.ref qPk)) (haS_2 : fsaS[2]? = some (.int 0)) : Met l yX11_plate zs_h_plate ({ frames := 1, cells := 0, slots := 0, locals := 21 } : Room) (zPc [.ref aH, .int iK] (dC, dI) (zTY cB cI cJ cZ cQ) (ws_h_plate cB cI cJ cZ cQ aH aS qK qPk iK fK fPk fsaH fsaS) sz) (va_Qi (fun (zr : Int32) (_ : Unit) => zr = sp_plate iK) (fun (_ : Unit) (_ : State) => True) (va_A (ws_h_plate cB cI cJ cZ cQ aH aS qK qPk iK fK fPk fsaH fsaS) sz)) 0 0 (va_A (ws_h_plate cB cI cJ cZ cQ aH aS qK qPk iK fK fPk fsaH fsaS) sz) := by
  refine Met.ofW (cc := cX11_plate) (maxL := 2) (ret := (some .int)) (by decide) rfl ?_
  intro p e s m args below meth c s₁ B hml hv
  obtain ⟨rfl, hsz, hP0, hK, hO, hD0⟩ := hv
  have hx := B.exec
  have hb := B.bytes
  have hr := B.returns
  have hts := atoms_spec (ws := zs_h_plate) B.pre
  have hown : s.vm.findClass RX11 = some m.cls := findClass_of_methodNamed B.named
  have hlocks := B.notSynchronized
  subst hsz
  have hD8 := hD0.self (sz := s.heap.size)
  generalize hAe : va_A (ws_h_plate cB cI cJ cZ cQ aH aS qK qPk iK fK fPk fsaH fsaS) s.heap.size = A at hD8 ⊢
  have hA : ∀ q : Nat, s.heap.size ≤ q → A q := fun q h => by rw [← hAe]; exact Or.inr h
  have hS : va_S A s.heap s.heap [] := va_S.rf
  have hP : va_P (dC, dI) vwCl [(aH, .inr (11, fsaH)), (aS, .inr (8, fsaS)), (qK, .inl (cI, 20, .inl fK)), (qPk, .inl (cI, 30, .inl fPk))] s.heap := hP0
  have hD : va_D A [(aH, .inr (11, fsaH)), (aS, .inr (8, fsaS)), (qK, .inl (cI, 20, .inl fK)), (qPk, .inl (cI, 30, .inl fPk))] := hD8
  have hl := lv_entry ([.ref aH, .int iK]) (n := 2) (Nat.le_of_ble_eq_true rfl)
  rw [lg_entry_eq]
  generalize (lg_sl ([.ref aH, .int iK]) ++ List.replicate (2 - (lg_sl ([.ref aH, .int iK])).length) Slot.unset).toArray = ls at hl ⊢
  have hl : lv_has ls 2 [(0, .ref aH), (1, .int iK)] := hl
  clear hP0 hD8 hD0
  refine zH0 (fun H hP hS => ?_) hP hS
  refine lv_aload_n hx hb dX11_plate_0 rfl (lv_at hl 0 rfl) ?_
  refine va_get (D := (dC, dI)) (ci := 11) (v := .ref aS) (C := RX11) (T := TX11) (N := 13) hx hb hts in_h_plate_11 hown hK hP 0 rfl rfl 4 (by decide) (hts (.fieldLink RX11 42 "LanternHouse" "stock" "LLanternHouse$Stock;") (by decide +kernel)) (fun _ h9 => h9) haH_4 dX11_plate_1 ?_
  refine lv_iload_n hx hb dX11_plate_4 rfl (lv_at hl 1 rfl) ?_
  have hPc : va_P (dC, dI) vwCl (ws_c_sadd cB cI cJ cZ cQ aS qK qPk iK fK fPk fsaS) H := hP.sub [1, 2, 3] rfl
  have hDc := hD.sub (ws' := (ws_c_sadd cB cI cJ cZ cQ aS qK qPk iK fK fPk fsaS)) [1, 2, 3] (by decide) rfl
  have hFc := va_free (wc := (ws_c_sadd cB cI cJ cZ cQ aS qK qPk iK fK fPk fsaS)) hD hS hA [1, 2, 3] rfl
  refine va_calli (va_runV (As := [.int iK]) (rest := []) ⟨hx, hb, hml, hown, hts⟩ (c_sadd l dC dI cB cI cJ cZ cQ aS qK qPk iK fK fPk fsaS H.size hlaS haS_0 haS_1 haS_2) (cwV 1 hts g_h_plate_c_sadd_134 rfl rfl rfl (by decide +kernel) ⟨Nat.le_of_ble_eq_true rfl, Nat.le_of_ble_eq_true rfl⟩) ⟨zFB, va_recv hK hP (ci := 8) (q0 := 1) rfl rfl, fun U hU hW => zUp hU hW hPc hK hO hDc⟩ rfl rfl hl.1 rfl (lv_room (Nat.le_of_ble_eq_true rfl)) dX11_plate_5 ⟨Nat.le_of_ble_eq_true rfl, Nat.le_of_ble_eq_true rfl⟩) hS (fun q _ h => hFc q h) hFc (fun r1 u t H1 locs ht hvm hw2 hB hz1 hk1 hS => ?_)
  have hP1 : va_P (dC, dI) vwCl [] H1 := zNilP
  have hD1 : va_D (va_A (ws_c_sadd cB cI cJ cZ cQ aS qK qPk iK fK fPk fsaS) H.size) [] := zNilD
  obtain ⟨hP, hD⟩ := va_join (wr := [(aH, .inr (11, fsaH))]) (w1 := []) hP hD [1, 2, 3] [0] rfl rfl (by decide) (by decide) hk1 hFc hP1 hD1
  generalize H1 = H at hP hS ⊢
  have hP : va_P (dC, dI) vwCl [(aH, .inr (11, fsaH))] H := hP
  have hD : va_D A [(aH, .inr (11, fsaH))] := hD
  exact W.iret (v := r1) hx hb hr (fun t ht hW => ⟨⟨r1, (), rfl, hw2, trivial⟩, hS.F ht⟩) hS.2.2 dX11_plate_8

def zs_h_cleaning : List Cond := .code yX11_cleaning cX11_cleaning 2 (some .boolean) :: (([.fieldLink RX11 70 "LanternHouse" "keeper" "LLanternHouse$Keeper;", .fieldLink RX11 138 "LanternHouse$Keeper" "cleaningHours" "I"] : List Cond) ++ (wsX110 ++ (wsX10 ++ [])))
theorem gd_h_cleaning : (zs_h_cleaning).all goodWord = true := by decide +kernel
theorem in_h_cleaning_11 : ∀ w ∈ wsX110, w ∈ zs_h_cleaning := fun w h => List.mem_cons_of_mem _ (List.mem_append_right _ (List.mem_append_left _ h))
theorem in_h_cleaning_1 : ∀ w ∈ wsX10, w ∈ zs_h_cleaning := fun w h => List.mem_cons_of_mem _ (List.mem_append_right _ (List.mem_append_right _ (List.mem_append_left _ h)))
abbrev ws_h_cleaning (cB cI cJ cZ cQ : ClassId) (aH aK : Nat) (iHr : Int32) (fsaH : List Value) (fsaK : List Value) : va_W := [(aH, .inr (11, fsaH)), (aK, .inr (1, fsaK))]
set_option maxHeartbeats 4000000 in
set_option maxRecDepth 100000 in
theorem h_cleaning (l : Launch) (dC : Nat → ClassId) (dI : Nat → Nat → Nat) (cB cI cJ cZ cQ : ClassId) (aH aK : Nat) (iHr : Int32) (fsaH : List Value) (fsaK : List Value) (sz : Nat) (hlaH : fsaH.length = 13) (haH_7 : fsaH[7]? = some (.ref aK)) (hlaK : fsaK.length = 8) : Met l yX11_cleaning zs_h_cleaning ({ frames := 0, cells := 0, slots := 0, locals := 0 } : Room) (zPc [.ref aH, .int iHr] (dC, dI) (zTY cB cI cJ cZ cQ) (ws_h_cleaning cB cI cJ cZ cQ aH aK iHr fsaH fsaK) sz) (va_Qi (fun (zr : Int32) (_ : Unit) => zr = sp_clean iHr) (fun (_ : Unit) (_ : State) => True) (va_A (ws_h_cleaning cB cI cJ cZ cQ aH aK iHr fsaH fsaK) sz)) 0 0 (va_A (ws_h_cleaning cB cI cJ cZ cQ aH aK iHr fsaH fsaK) sz) := by
  refine Met.ofW (cc := cX11_cleaning) (maxL := 2) (ret := (some .boolean)) (by decide) rfl ?_
  intro p e s m args below meth c s₁ B hml hv
  obtain ⟨rfl, hsz, hP0, hK, hO, hD0⟩ := hv
  have hx := B.exec
  have hb := B.bytes
  have hr := B.returns
  have hts := atoms_spec (ws := zs_h_cleaning) B.pre
  have hown : s.vm.findClass RX11 = some m.cls := findClass_of_methodNamed B.named
  have hlocks := B.notSynchronized
  subst hsz
  have hD8 := hD0.self (sz := s.heap.size)
  generalize hAe : va_A (ws_h_cleaning cB cI cJ cZ cQ aH aK iHr fsaH fsaK) s.heap.size = A at hD8 ⊢
  have hA : ∀ q : Nat, s.heap.size ≤ q → A q := fun q h => by rw [← hAe]; exact Or.inr h
  have hS : va_S A s.heap s.heap [] := va_S.rf
  have hP : va_P (dC, dI) vwCl [(aH, .inr (11, fsaH)), (aK, .inr (1, fsaK))] s.heap := hP0
  have hD : va_D A [(aH, .inr (11, fsaH)), (aK, .inr (1, fsaK))] := hD8
  have hl := lv_entry ([.ref aH, .int iHr]) (n := 2) (Nat.le_of_ble_eq_true rfl)
  rw [lg_entry_eq]
  generalize (lg_sl ([.ref aH, .int iHr]) ++ List.replicate (2 - (lg_sl ([.ref aH, .int iHr])).length) Slot.unset).toArray = ls at hl ⊢
  have hl : lv_has ls 2 [(0, .ref aH), (1, .int iHr)] := hl
  clear hP0 hD8 hD0
  refine zH0 (fun H hP hS => ?_) hP hS
  refine lv_iload_n hx hb dX11_cleaning_0 rfl (lv_at hl 1 rfl) ?_
  refine lv_if_lt (tgt := 10) hx hb dX11_cleaning_1 (by decide) (fun c1 => ?_) (fun c1 => ?_)
  · skip
    refine lv_iconst (v := 0) hx hb dX11_cleaning_10 (by decide) ?_
    exact W.zret (v := 0) hx hb hr rfl (fun t ht hW => ⟨⟨0, (), rfl, (by first | rfl | decide | (unfold sp_clean; split <;> rename_i zh <;> first | rfl | (exfalso; simp only [Int32.lt_iff_toInt_lt, Int32.le_iff_toInt_le, ← Int32.toInt_inj, zi_m1, zi_0, zi_1, zi_6, zi_8, zi_M, zi_16, zi_20, zi_23, zi_24, zi_27, zi_29, zi_30, zi_40, zi_500, zi_700, zi_1000, true_and, and_true] at zh c1 <;> omega))), trivial⟩, hS.F ht⟩) hS.2.2 dX11_cleaning_11
  · skip
    refine lv_iload_n hx hb dX11_cleaning_4 rfl (lv_at hl 1 rfl) ?_
    refine lv_bipush (v := 24) hx hb dX11_cleaning_5 (by decide) ?_
    refine lv_icmp_le (tgt := 12) hx hb dX11_cleaning_7 (by decide) (fun c2 => ?_) (fun c2 => ?_)
    · skip
      refine lv_aload_n hx hb dX11_cleaning_12 rfl (lv_at hl 0 rfl) ?_
      refine va_get (D := (dC, dI)) (ci := 11) (v := .ref aK) (C := RX11) (T := TX11) (N := 13) hx hb hts in_h_cleaning_11 hown hK hP 0 rfl rfl 7 (by decide) (hts (.fieldLink RX11 70 "LanternHouse" "keeper" "LLanternHouse$Keeper;") (by decide +kernel)) (fun _ h9 => h9) haH_7 dX11_cleaning_13 ?_
      refine lv_iload_n hx hb dX11_cleaning_16 rfl (lv_at hl 1 rfl) ?_
      refine va_put (D := (dC, dI)) (ci := 1) (v := .int iHr) (ty := .int) (C := RX1) (T := TX1) (N := 8) hx hb hts in_h_cleaning_1 tyX1 tyX1_ok nmX1 hown hK hP hD hS 1 rfl rfl 7 (by decide) (hts (.fieldLink RX11 138 "LanternHouse$Keeper" "cleaningHours" "I") (by decide +kernel)) (fun _ h9 => h9) rfl (by decide +kernel) rfl rfl (by rw [hlaK]; decide) dX11_cleaning_17 (fun H locs hP hD hS => ?_)
      have hP : va_P (dC, dI) vwCl [(aH, .inr (11, fsaH)), (aK, .inr (1, (List.set fsaK 7 (.int iHr))))] H := hP
      have hD : va_D A [(aH, .inr (11, fsaH)), (aK, .inr (1, (List.set fsaK 7 (.int iHr))))] := hD
      refine lv_iconst (v := 1) hx hb dX11_cleaning_20 (by decide) ?_
      exact W.zret (v := 1) hx hb hr rfl (fun t ht hW => ⟨⟨1, (), rfl, (by first | rfl | decide | (unfold sp_clean; split <;> rename_i zh <;> first | rfl | (exfalso; simp only [Int32.lt_iff_toInt_lt, Int32.le_iff_toInt_le, ← Int32.toInt_inj, zi_m1, zi_0, zi_1, zi_6, zi_8, zi_M, zi_16, zi_20, zi_23, zi_24, zi_27, zi_29, zi_30, zi_40, zi_500, zi_700, zi_1000, true_and, and_true] at zh c1 c2 <;> omega))), trivial⟩, hS.F ht⟩) hS.2.2 dX11_cleaning_21
    · skip
      refine lv_iconst (v := 0) hx hb dX11_cleaning_10 (by decide) ?_
      exact W.zret (v := 0) hx hb hr rfl (fun t ht hW => ⟨⟨0, (), rfl, (by first | rfl | decide | (unfold sp_clean; split <;> rename_i zh <;> first | rfl | (exfalso; simp only [Int32.lt_iff_toInt_lt, Int32.le_iff_toInt_le, ← Int32.toInt_inj, zi_m1, zi_0, zi_1, zi_6, zi_8, zi_M, zi_16, zi_20, zi_23, zi_24, zi_27, zi_29, zi_30, zi_40, zi_500, zi_700, zi_1000, true_and, and_true] at zh c1 c2 <;> omega))), trivial⟩, hS.F ht⟩) hS.2.2 dX11_cleaning_11

def zs_h_cancel : List Cond := .code yX11_cancel cX11_cancel 3 (some .int) :: (([.fieldLink RX11 35 "LanternHouse" "rails" "LLanternHouse$Rails;", .fieldLink RX11 141 "LanternHouse$Rails" "trains" "I"] : List Cond) ++ (wsX110 ++ (wsX40 ++ [])))
theorem gd_h_cancel : (zs_h_cancel).all goodWord = true := by decide +kernel
theorem in_h_cancel_11 : ∀ w ∈ wsX110, w ∈ zs_h_cancel := fun w h => List.mem_cons_of_mem _ (List.mem_append_right _ (List.mem_append_left _ h))
theorem in_h_cancel_4 : ∀ w ∈ wsX40, w ∈ zs_h_cancel := fun w h => List.mem_cons_of_mem _ (List.mem_append_right _ (List.mem_append_right _ (List.mem_append_left _ h)))
abbrev ws_h_cancel (cB cI cJ cZ cQ : ClassId) (aH aRa : Nat) (iT : Int32) (iD : Int32) (fsaH : List Value) (fsaRa : List Value) : va_W := [(aH, .inr (11, fsaH)), (aRa, .inr (4, fsaRa))]
set_option maxHeartbeats 4000000 in
set_option maxRecDepth 100000 in
theorem h_cancel (l : Launch) (dC : Nat → ClassId) (dI : Nat → Nat → Nat) (cB cI cJ cZ cQ : ClassId) (aH aRa : Nat) (iT : Int32) (iD : Int32) (fsaH : List Value) (fsaRa : List Value) (sz : Nat) (hlaH : fsaH.length = 13) (haH_3 : fsaH[3]? = some (.ref aRa)) (hlaRa : fsaRa.length = 8) (haRa_7 : fsaRa[7]? = some (.int 0)) : Met l yX11_cancel zs_h_cancel ({ frames := 0, cells := 0, slots := 0, locals := 0 } : Room) (zPc [.ref aH, .int iT, .int iD] (dC, dI) (zTY cB cI cJ cZ cQ) (ws_h_cancel cB cI cJ cZ cQ aH aRa iT iD fsaH fsaRa) sz) (va_Qi (fun (zr : Int32) (_ : Unit) => zr = (-1)) (fun (_ : Unit) (_ : State) => True) (va_A (ws_h_cancel cB cI cJ cZ cQ aH aRa iT iD fsaH fsaRa) sz)) 0 0 (va_A (ws_h_cancel cB cI cJ cZ cQ aH aRa iT iD fsaH fsaRa) sz) := by
  refine Met.ofW (cc := cX11_cancel) (maxL := 3) (ret := (some .int)) (by decide) rfl ?_
  intro p e s m args below meth c s₁ B hml hv
  obtain ⟨rfl, hsz, hP0, hK, hO, hD0⟩ := hv
  have hx := B.exec
  have hb := B.bytes
  have hr := B.returns
  have hts := atoms_spec (ws := zs_h_cancel) B.pre
  have hown : s.vm.findClass RX11 = some m.cls := findClass_of_methodNamed B.named
  have hlocks := B.notSynchronized
  subst hsz
  have hD8 := hD0.self (sz := s.heap.size)
  generalize hAe : va_A (ws_h_cancel cB cI cJ cZ cQ aH aRa iT iD fsaH fsaRa) s.heap.size = A at hD8 ⊢
  have hA : ∀ q : Nat, s.heap.size ≤ q → A q := fun q h => by rw [← hAe]; exact Or.inr h
  have hS : va_S A s.heap s.heap [] := va_S.rf
  have hP : va_P (dC, dI) vwCl [(aH, .inr (11, fsaH)), (aRa, .inr (4, fsaRa))] s.heap := hP0
  have hD : va_D A [(aH, .inr (11, fsaH)), (aRa, .inr (4, fsaRa))] := hD8
  have hl := lv_entry ([.ref aH, .int iT, .int iD]) (n := 3) (Nat.le_of_ble_eq_true rfl)
  rw [lg_entry_eq]
  generalize (lg_sl ([.ref aH, .int iT, .int iD]) ++ List.replicate (3 - (lg_sl ([.ref aH, .int iT, .int iD])).length) Slot.unset).toArray = ls at hl ⊢
  have hl : lv_has ls 3 [(0, .ref aH), (1, .int iT), (2, .int iD)] := hl
  clear hP0 hD8 hD0
  refine zH0 (fun H hP hS => ?_) hP hS
  refine lv_iload_n hx hb dX11_cancel_0 rfl (lv_at hl 1 rfl) ?_
  refine lv_if_lt (tgt := 25) hx hb dX11_cancel_1 (by decide) (fun c1 => ?_) (fun c1 => ?_)
  · skip
    refine lv_iconst (v := (-1)) hx hb dX11_cancel_25 (by decide) ?_
    exact W.iret (v := (-1)) hx hb hr (fun t ht hW => ⟨⟨(-1), (), rfl, rfl, trivial⟩, hS.F ht⟩) hS.2.2 dX11_cancel_26
  · skip
    refine lv_iload_n hx hb dX11_cancel_4 rfl (lv_at hl 1 rfl) ?_
    refine lv_aload_n hx hb dX11_cancel_5 rfl (lv_at hl 0 rfl) ?_
    refine va_get (D := (dC, dI)) (ci := 11) (v := .ref aRa) (C := RX11) (T := TX11) (N := 13) hx hb hts in_h_cancel_11 hown hK hP 0 rfl rfl 3 (by decide) (hts (.fieldLink RX11 35 "LanternHouse" "rails" "LLanternHouse$Rails;") (by decide +kernel)) (fun _ h9 => h9) haH_3 dX11_cancel_6 ?_
    refine va_get (D := (dC, dI)) (ci := 4) (v := .int 0) (C := RX4) (T := TX4) (N := 8) hx hb hts in_h_cancel_4 hown hK hP 1 rfl rfl 7 (by decide) (hts (.fieldLink RX11 141 "LanternHouse$Rails" "trains" "I") (by decide +kernel)) (fun _ h9 => h9) haRa_7 dX11_cancel_9 ?_
    refine lv_icmp_ge (tgt := 25) hx hb dX11_cancel_12 (by decide) (fun c2 => ?_) (fun c2 => ?_)
    · skip
      refine lv_iconst (v := (-1)) hx hb dX11_cancel_25 (by decide) ?_
      exact W.iret (v := (-1)) hx hb hr (fun t ht hW => ⟨⟨(-1), (), rfl, rfl, trivial⟩, hS.F ht⟩) hS.2.2 dX11_cancel_26
    · skip
      exfalso
      simp only [Int32.lt_iff_toInt_lt, Int32.le_iff_toInt_le, ← Int32.toInt_inj, zi_m1, zi_0, zi_1, zi_6, zi_8, zi_M, zi_16, zi_20, zi_23, zi_24, zi_27, zi_29, zi_30, zi_40, zi_500, zi_700, zi_1000] at c1 c2 <;> omega

def zs_h_look : List Cond := .code yX11_look cX11_look 4 (some .int) :: (([.methodLink RX11 147 yX11_isPlate, .instanceMethod yX11_isPlate, .selects RX11 yX11_isPlate yX11_isPlate, .initialized RX11] : List Cond) ++ (zs_h_isPlate ++ []))
theorem gd_h_look : (zs_h_look).all goodWord = true := by decide +kernel
theorem g_h_look_h_isPlate_147 : GoodIn zs_h_look (wsV RX11 147 RX11 yX11_isPlate zs_h_isPlate) := goodIn_app (goodIn_of _ (by decide +kernel)) (goodIn_sub (fun w h => List.mem_cons_of_mem _ (List.mem_append_right _ (List.mem_append_left _ h))) gd_h_isPlate)
abbrev ws_h_look (cB cI cJ cZ cQ : ClassId) (aH aS : Nat) (iP : Int32) (iHr : Int32) (iWh : Int32) (fsaH : List Value) (fsaS : List Value) : va_W := [(aH, .inr (11, fsaH)), (aS, .inr (8, fsaS))]
set_option maxHeartbeats 4000000 in
set_option maxRecDepth 100000 in
theorem h_look (l : Launch) (dC : Nat → ClassId) (dI : Nat → Nat → Nat) (cB cI cJ cZ cQ : ClassId) (aH aS : Nat) (iP : Int32) (iHr : Int32) (iWh : Int32) (fsaH : List Value) (fsaS : List Value) (sz : Nat) (hlaH : fsaH.length = 13) (haH_4 : fsaH[4]? = some (.ref aS)) (hlaS : fsaS.length = 3) (haS_2 : fsaS[2]? = some (.int 0)) : Met l yX11_look zs_h_look ({ frames := 1, cells := 0, slots := 0, locals := 21 } : Room) (zPc [.ref aH, .int iP, .int iHr, .int iWh] (dC, dI) (zTY cB cI cJ cZ cQ) (ws_h_look cB cI cJ cZ cQ aH aS iP iHr iWh fsaH fsaS) sz) (va_Qi (fun (zr : Int32) (_ : Unit) => zr = (-1)) (fun (_ : Unit) (_ : State) => True) (va_A (ws_h_look cB cI cJ cZ cQ aH aS iP iHr iWh fsaH fsaS) sz)) 0 0 (va_A (ws_h_look cB cI cJ cZ cQ aH aS iP iHr iWh fsaH fsaS) sz) := by
  refine Met.ofW (cc := cX11_look) (maxL := 4) (ret := (some .int)) (by decide) rfl ?_
  intro p e s m args below meth c s₁ B hml hv
  obtain ⟨rfl, hsz, hP0, hK, hO, hD0⟩ := hv
  have hx := B.exec
  have hb := B.bytes
  have hr := B.returns
  have hts := atoms_spec (ws := zs_h_look) B.pre
  have hown : s.vm.findClass RX11 = some m.cls := findClass_of_methodNamed B.named
  have hlocks := B.notSynchronized
  subst hsz
  have hD8 := hD0.self (sz := s.heap.size)
  generalize hAe : va_A (ws_h_look cB cI cJ cZ cQ aH aS iP iHr iWh fsaH fsaS) s.heap.size = A at hD8 ⊢
  have hA : ∀ q : Nat, s.heap.size ≤ q → A q := fun q h => by rw [← hAe]; exact Or.inr h
  have hS : va_S A s.heap s.heap [] := va_S.rf
  have hP : va_P (dC, dI) vwCl [(aH, .inr (11, fsaH)), (aS, .inr (8, fsaS))] s.heap := hP0
  have hD : va_D A [(aH, .inr (11, fsaH)), (aS, .inr (8, fsaS))] := hD8
  have hl := lv_entry ([.ref aH, .int iP, .int iHr, .int iWh]) (n := 4) (Nat.le_of_ble_eq_true rfl)
  rw [lg_entry_eq]
  generalize (lg_sl ([.ref aH, .int iP, .int iHr, .int iWh]) ++ List.replicate (4 - (lg_sl ([.ref aH, .int iP, .int iHr, .int iWh])).length) Slot.unset).toArray = ls at hl ⊢
  have hl : lv_has ls 4 [(0, .ref aH), (1, .int iP), (2, .int iHr), (3, .int iWh)] := hl
  clear hP0 hD8 hD0
  refine zH0 (fun H hP hS => ?_) hP hS
  refine lv_aload_n hx hb dX11_look_0 rfl (lv_at hl 0 rfl) ?_
  refine lv_iload_n hx hb dX11_look_1 rfl (lv_at hl 1 rfl) ?_
  have hPc : va_P (dC, dI) vwCl (ws_h_isPlate cB cI cJ cZ cQ aH aS iP fsaH fsaS) H := hP.sub [0, 1] rfl
  have hDc := hD.sub (ws' := (ws_h_isPlate cB cI cJ cZ cQ aH aS iP fsaH fsaS)) [0, 1] (by decide) rfl
  have hFc := va_free (wc := (ws_h_isPlate cB cI cJ cZ cQ aH aS iP fsaH fsaS)) hD hS hA [0, 1] rfl
  refine va_calli (va_runV (As := [.int iP]) (rest := []) ⟨hx, hb, hml, hown, hts⟩ (h_isPlate l dC dI cB cI cJ cZ cQ aH aS iP fsaH fsaS H.size hlaH haH_4 hlaS haS_2) (cwV 1 hts g_h_look_h_isPlate_147 rfl rfl rfl (by decide +kernel) ⟨Nat.le_of_ble_eq_true rfl, Nat.le_of_ble_eq_true rfl⟩) ⟨zFB, va_recv hK hP (ci := 11) (q0 := 0) rfl rfl, fun U hU hW => zUp hU hW hPc hK hO hDc⟩ rfl rfl hl.1 rfl (lv_room (Nat.le_of_ble_eq_true rfl)) dX11_look_2 ⟨Nat.le_of_ble_eq_true rfl, Nat.le_of_ble_eq_true rfl⟩) hS (fun q _ h => hFc q h) hFc (fun r1 u t H1 locs ht hvm hw2 hB hz1 hk1 hS => ?_)
  have hP1 : va_P (dC, dI) vwCl [] H1 := zNilP
  have hD1 : va_D (va_A (ws_h_isPlate cB cI cJ cZ cQ aH aS iP fsaH fsaS) H.size) [] := zNilD
  obtain ⟨hP, hD⟩ := va_join (wr := []) (w1 := []) hP hD [0, 1] [] rfl rfl (by decide) (by decide) hk1 hFc hP1 hD1
  generalize H1 = H at hP hS ⊢
  have hP : va_P (dC, dI) vwCl [] H := hP
  have hD : va_D A [] := hD
  obtain rfl : r1 = 0 := hw2
  refine lv_if_eq (tgt := 16) hx hb dX11_look_5 (by decide) (fun _ => ?_) (fun zc => absurd zc (by decide))
  refine lv_iconst (v := (-1)) hx hb dX11_look_16 (by decide) ?_
  exact W.iret (v := (-1)) hx hb hr (fun t ht hW => ⟨⟨(-1), (), rfl, rfl, trivial⟩, hS.F ht⟩) hS.2.2 dX11_look_17

def zs_h_show : List Cond := .code yX11_show cX11_show 6 (some .int) :: (([.fieldLink RX11 35 "LanternHouse" "rails" "LLanternHouse$Rails;", .fieldLink RX11 61 "LanternHouse" "shows" "LLanternHouse$Shows;", .methodLink RX11 154 yX4_isHall, .instanceMethod yX4_isHall, .selects RX4 yX4_isHall yX4_isHall, .initialized RX4, .methodLink RX11 157 yX7_add, .instanceMethod yX7_add, .selects RX7 yX7_add yX7_add, .initialized RX7] : List Cond) ++ (zs_c_isHall ++ (zs_c_shadd ++ (wsX110 ++ []))))
theorem gd_h_show : (zs_h_show).all goodWord = true := by decide +kernel
theorem in_h_show_11 : ∀ w ∈ wsX110, w ∈ zs_h_show := fun w h => List.mem_cons_of_mem _ (List.mem_append_right _ (List.mem_append_right _ (List.mem_append_right _ (List.mem_append_left _ h))))
theorem g_h_show_c_isHall_154 : GoodIn zs_h_show (wsV RX11 154 RX4 yX4_isHall zs_c_isHall) := goodIn_app (goodIn_of _ (by decide +kernel)) (goodIn_sub (fun w h => List.mem_cons_of_mem _ (List.mem_append_right _ (List.mem_append_left _ h))) gd_c_isHall)
theorem g_h_show_c_shadd_157 : GoodIn zs_h_show (wsV RX11 157 RX7 yX7_add zs_c_shadd) := goodIn_app (goodIn_of _ (by decide +kernel)) (goodIn_sub (fun w h => List.mem_cons_of_mem _ (List.mem_append_right _ (List.mem_append_right _ (List.mem_append_left _ h)))) gd_c_shadd)
abbrev ws_h_show (cB cI cJ cZ cQ : ClassId) (aH aRa aSh aX : Nat) (iX : Int32) (iH : Int32) (iL : Int32) (iG : Int32) (iWo : Int32) (fsaH : List Value) (fsaRa : List Value) (fsaSh : List Value) (fsaX : List Value) : va_W := [(aH, .inr (11, fsaH)), (aRa, .inr (4, fsaRa)), (aSh, .inr (7, fsaSh)), (aX, .inr (2, fsaX))]
set_option maxHeartbeats 4000000 in
set_option maxRecDepth 100000 in
theorem h_show (l : Launch) (dC : Nat → ClassId) (dI : Nat → Nat → Nat) (cB cI cJ cZ cQ : ClassId) (aH aRa aSh aX : Nat) (iX : Int32) (iH : Int32) (iL : Int32) (iG : Int32) (iWo : Int32) (fsaH : List Value) (fsaRa : List Value) (fsaSh : List Value) (fsaX : List Value) (sz : Nat) (hlaH : fsaH.length = 13) (haH_3 : fsaH[3]? = some (.ref aRa)) (haH_6 : fsaH[6]? = some (.ref aSh)) (hlaRa : fsaRa.length = 8) (haRa_6 : fsaRa[6]? = some (.int 1)) (hlaSh : fsaSh.length = 8) (haSh_6 : fsaSh[6]? = some (.int 0)) (haSh_7 : fsaSh[7]? = some (.ref aX)) (hlaX : fsaX.length = 13) (haX_12 : fsaX[12]? = some (.int 0)) : Met l yX11_show zs_h_show ({ frames := 2, cells := 0, slots := 0, locals := 48 } : Room) (zPc [.ref aH, .int iX, .int iH, .int iL, .int iG, .int iWo] (dC, dI) (zTY cB cI cJ cZ cQ) (ws_h_show cB cI cJ cZ cQ aH aRa aSh aX iX iH iL iG iWo fsaH fsaRa fsaSh fsaX) sz) (va_Qi (fun (zr : Int32) (_ : Unit) => zr = (-1)) (fun (_ : Unit) (_ : State) => True) (va_A (ws_h_show cB cI cJ cZ cQ aH aRa aSh aX iX iH iL iG iWo fsaH fsaRa fsaSh fsaX) sz)) 0 0 (va_A (ws_h_show cB cI cJ cZ cQ aH aRa aSh aX iX iH iL iG iWo fsaH fsaRa fsaSh fsaX) sz) := by
  refine Met.ofW (cc := cX11_show) (maxL := 6) (ret := (some .int)) (by decide) rfl ?_
  intro p e s m args below meth c s₁ B hml hv
  obtain ⟨rfl, hsz, hP0, hK, hO, hD0⟩ := hv
  have hx := B.exec
  have hb := B.bytes
  have hr := B.returns
  have hts := atoms_spec (ws := zs_h_show) B.pre
  have hown : s.vm.findClass RX11 = some m.cls := findClass_of_methodNamed B.named
  have hlocks := B.notSynchronized
  subst hsz
  have hD8 := hD0.self (sz := s.heap.size)
  generalize hAe : va_A (ws_h_show cB cI cJ cZ cQ aH aRa aSh aX iX iH iL iG iWo fsaH fsaRa fsaSh fsaX) s.heap.size = A at hD8 ⊢
  have hA : ∀ q : Nat, s.heap.size ≤ q → A q := fun q h => by rw [← hAe]; exact Or.inr h
  have hS : va_S A s.heap s.heap [] := va_S.rf
  have hP : va_P (dC, dI) vwCl [(aH, .inr (11, fsaH)), (aRa, .inr (4, fsaRa)), (aSh, .inr (7, fsaSh)), (aX, .inr (2, fsaX))] s.heap := hP0
  have hD : va_D A [(aH, .inr (11, fsaH)), (aRa, .inr (4, fsaRa)), (aSh, .inr (7, fsaSh)), (aX, .inr (2, fsaX))] := hD8
  have hl := lv_entry ([.ref aH, .int iX, .int iH, .int iL, .int iG, .int iWo]) (n := 6) (Nat.le_of_ble_eq_true rfl)
  rw [lg_entry_eq]
  generalize (lg_sl ([.ref aH, .int iX, .int iH, .int iL, .int iG, .int iWo]) ++ List.replicate (6 - (lg_sl ([.ref aH, .int iX, .int iH, .int iL, .int iG, .int iWo])).length) Slot.unset).toArray = ls at hl ⊢
  have hl : lv_has ls 6 [(0, .ref aH), (1, .int iX), (2, .int iH), (3, .int iL), (4, .int iG), (5, .int iWo)] := hl
  clear hP0 hD8 hD0
  refine zH0 (fun H hP hS => ?_) hP hS
  refine lv_aload_n hx hb dX11_show_0 rfl (lv_at hl 0 rfl) ?_
  refine va_get (D := (dC, dI)) (ci := 11) (v := .ref aRa) (C := RX11) (T := TX11) (N := 13) hx hb hts in_h_show_11 hown hK hP 0 rfl rfl 3 (by decide) (hts (.fieldLink RX11 35 "LanternHouse" "rails" "LLanternHouse$Rails;") (by decide +kernel)) (fun _ h9 => h9) haH_3 dX11_show_1 ?_
  refine lv_iload_n hx hb dX11_show_4 rfl (lv_at hl 2 rfl) ?_
  have hPc : va_P (dC, dI) vwCl (ws_c_isHall cB cI cJ cZ cQ aRa iH fsaRa) H := hP.sub [1] rfl
  have hDc := hD.sub (ws' := (ws_c_isHall cB cI cJ cZ cQ aRa iH fsaRa)) [1] (by decide) rfl
  have hFc := va_free (wc := (ws_c_isHall cB cI cJ cZ cQ aRa iH fsaRa)) hD hS hA [1] rfl
  refine va_calli (va_runV (As := [.int iH]) (rest := []) ⟨hx, hb, hml, hown, hts⟩ (c_isHall l dC dI cB cI cJ cZ cQ aRa iH fsaRa H.size hlaRa haRa_6) (cwV 1 hts g_h_show_c_isHall_154 rfl rfl rfl (by decide +kernel) ⟨Nat.le_of_ble_eq_true rfl, Nat.le_of_ble_eq_true rfl⟩) ⟨zFB, va_recv hK hP (ci := 4) (q0 := 1) rfl rfl, fun U hU hW => zUp hU hW hPc hK hO hDc⟩ rfl rfl hl.1 rfl (lv_room (Nat.le_of_ble_eq_true rfl)) dX11_show_5 ⟨Nat.le_of_ble_eq_true rfl, Nat.le_of_ble_eq_true rfl⟩) hS (fun q _ h => hFc q h) hFc (fun r1 u t H1 locs ht hvm hw2 hB hz1 hk1 hS => ?_)
  obtain ⟨gs3, hgl4, hgf5, hP1, hD1⟩ := hB
  rw [ht] at hP1
  obtain ⟨hP, hD⟩ := va_join (wr := [(aH, .inr (11, fsaH)), (aSh, .inr (7, fsaSh)), (aX, .inr (2, fsaX))]) (w1 := [(aRa, .inr (4, gs3))]) hP hD [1] [0, 2, 3] rfl rfl (by decide) (by decide) hk1 hFc hP1 hD1
  generalize H1 = H at hP hS ⊢
  have hP : va_P (dC, dI) vwCl [(aH, .inr (11, fsaH)), (aSh, .inr (7, fsaSh)), (aX, .inr (2, fsaX)), (aRa, .inr (4, gs3))] H := hP
  have hD : va_D A [(aH, .inr (11, fsaH)), (aSh, .inr (7, fsaSh)), (aX, .inr (2, fsaX)), (aRa, .inr (4, gs3))] := hD
  rcases hw2 with ⟨rfl, c6⟩ | ⟨rfl, c7⟩
  · skip
    have ziH : iH = 0 := z_inj (by simp only [Int32.lt_iff_toInt_lt, Int32.le_iff_toInt_le, ← Int32.toInt_inj, zi_m1, zi_0, zi_1, zi_6, zi_8, zi_M, zi_16, zi_20, zi_23, zi_24, zi_27, zi_29, zi_30, zi_40, zi_500, zi_700, zi_1000] at c6 ⊢<;> omega)
    subst ziH
    refine lv_if_ne (tgt := 13) hx hb dX11_show_8 (by decide) (fun _ => ?_) (fun zc => absurd zc (by decide))
    refine lv_aload_n hx hb dX11_show_13 rfl (lv_at hl 0 rfl) ?_
    refine va_get (D := (dC, dI)) (ci := 11) (v := .ref aSh) (C := RX11) (T := TX11) (N := 13) hx hb hts in_h_show_11 hown hK hP 0 rfl rfl 6 (by decide) (hts (.fieldLink RX11 61 "LanternHouse" "shows" "LLanternHouse$Shows;") (by decide +kernel)) (fun _ h9 => h9) haH_6 dX11_show_14 ?_
    refine lv_iload_n hx hb dX11_show_17 rfl (lv_at hl 1 rfl) ?_
    refine lv_iload_n hx hb dX11_show_18 rfl (lv_at hl 2 rfl) ?_
    refine lv_iload_n hx hb dX11_show_19 rfl (lv_at hl 3 rfl) ?_
    refine lv_iload hx hb dX11_show_20 (lv_at hl 4 rfl) ?_
    refine lv_iload hx hb dX11_show_22 (lv_at hl 5 rfl) ?_
    have hPc : va_P (dC, dI) vwCl (ws_c_shadd cB cI cJ cZ cQ aSh aX iX 0 iL iG iWo fsaSh fsaX) H := hP.sub [1, 2] rfl
    have hDc := hD.sub (ws' := (ws_c_shadd cB cI cJ cZ cQ aSh aX iX 0 iL iG iWo fsaSh fsaX)) [1, 2] (by decide) rfl
    have hFc := va_free (wc := (ws_c_shadd cB cI cJ cZ cQ aSh aX iX 0 iL iG iWo fsaSh fsaX)) hD hS hA [1, 2] rfl
    refine va_calli (va_runV (As := [.int iX, .int 0, .int iL, .int iG, .int iWo]) (rest := []) ⟨hx, hb, hml, hown, hts⟩ (c_shadd l dC dI cB cI cJ cZ cQ aSh aX iX 0 iL iG iWo fsaSh fsaX H.size hlaSh haSh_6 haSh_7 hlaX haX_12) (cwV 5 hts g_h_show_c_shadd_157 rfl rfl rfl (by decide +kernel) ⟨Nat.le_of_ble_eq_true rfl, Nat.le_of_ble_eq_true rfl⟩) ⟨zFB, va_recv hK hP (ci := 7) (q0 := 1) rfl rfl, fun U hU hW => zUp hU hW hPc hK hO hDc⟩ rfl rfl hl.1 rfl (lv_room (Nat.le_of_ble_eq_true rfl)) dX11_show_24 ⟨Nat.le_of_ble_eq_true rfl, Nat.le_of_ble_eq_true rfl⟩) hS (fun q _ h => hFc q h) hFc (fun r8 u t H1 locs ht hvm hw9 hB hz1 hk1 hS => ?_)
    have hP1 : va_P (dC, dI) vwCl [] H1 := zNilP
    have hD1 : va_D (va_A (ws_c_shadd cB cI cJ cZ cQ aSh aX iX 0 iL iG iWo fsaSh fsaX) H.size) [] := zNilD
    obtain ⟨hP, hD⟩ := va_join (wr := [(aH, .inr (11, fsaH)), (aRa, .inr (4, gs3))]) (w1 := []) hP hD [1, 2] [0, 3] rfl rfl (by decide) (by decide) hk1 hFc hP1 hD1
    generalize H1 = H at hP hS ⊢
    have hP : va_P (dC, dI) vwCl [(aH, .inr (11, fsaH)), (aRa, .inr (4, gs3))] H := hP
    have hD : va_D A [(aH, .inr (11, fsaH)), (aRa, .inr (4, gs3))] := hD
    obtain rfl : r8 = (-1) := hw9
    exact W.iret (v := (-1)) hx hb hr (fun t ht hW => ⟨⟨(-1), (), rfl, rfl, trivial⟩, hS.F ht⟩) hS.2.2 dX11_show_27
  · skip
    refine lv_if_ne (tgt := 13) hx hb dX11_show_8 (by decide) (fun zc => absurd zc (by decide)) (fun _ => ?_)
    refine lv_iconst (v := (-1)) hx hb dX11_show_11 (by decide) ?_
    exact W.iret (v := (-1)) hx hb hr (fun t ht hW => ⟨⟨(-1), (), rfl, rfl, trivial⟩, hS.F ht⟩) hS.2.2 dX11_show_12

def zs_h_way : List Cond := .code yX11_way cX11_way 5 (some .int) :: (([.fieldLink RX11 35 "LanternHouse" "rails" "LLanternHouse$Rails;", .fieldLink RX11 49 "LanternHouse" "facts" "LLanternHouse$Facts;", .methodLink RX11 154 yX4_isHall, .instanceMethod yX4_isHall, .selects RX4 yX4_isHall yX4_isHall, .initialized RX4, .methodLink RX11 151 yX11_isHour, .instanceMethod yX11_isHour, .selects RX11 yX11_isHour yX11_isHour, .initialized RX11, .methodLink RX11 160 yX0_isKnown, .instanceMethod yX0_isKnown, .selects RX0 yX0_isKnown yX0_isKnown, .initialized RX0, .methodLink RX11 163 yX4_learn, .instanceMethod yX4_learn, .selects RX4 yX4_learn yX4_learn, .methodLink RX11 167 yX4_soonest, .instanceMethod yX4_soonest, .selects RX4 yX4_soonest yX4_soonest] : List Cond) ++ (zs_c_isHall ++ (zs_h_isHour ++ (zs_c_isKnown ++ (zs_c_learn ++ (zs_c_soonest ++ (wsX110 ++ [])))))))
theorem gd_h_way : (zs_h_way).all goodWord = true := by decide +kernel
theorem in_h_way_11 : ∀ w ∈ wsX110, w ∈ zs_h_way := fun w h => List.mem_cons_of_mem _ (List.mem_append_right _ (List.mem_append_right _ (List.mem_append_right _ (List.mem_append_right _ (List.mem_append_right _ (List.mem_append_right _ (List.mem_append_left _ h)))))))
theorem g_h_way_c_isHall_154 : GoodIn zs_h_way (wsV RX11 154 RX4 yX4_isHall zs_c_isHall) := goodIn_app (goodIn_of _ (by decide +kernel)) (goodIn_sub (fun w h => List.mem_cons_of_mem _ (List.mem_append_right _ (List.mem_append_left _ h))) gd_c_isHall)
theorem g_h_way_h_isHour_151 : GoodIn zs_h_way (wsV RX11 151 RX11 yX11_isHour zs_h_isHour) := goodIn_app (goodIn_of _ (by decide +kernel)) (goodIn_sub (fun w h => List.mem_cons_of_mem _ (List.mem_append_right _ (List.mem_append_right _ (List.mem_append_left _ h)))) gd_h_isHour)
theorem g_h_way_c_isKnown_160 : GoodIn zs_h_way (wsV RX11 160 RX0 yX0_isKnown zs_c_isKnown) := goodIn_app (goodIn_of _ (by decide +kernel)) (goodIn_sub (fun w h => List.mem_cons_of_mem _ (List.mem_append_right _ (List.mem_append_right _ (List.mem_append_right _ (List.mem_append_left _ h))))) gd_c_isKnown)
theorem g_h_way_c_learn_163 : GoodIn zs_h_way (wsV RX11 163 RX4 yX4_learn zs_c_learn) := goodIn_app (goodIn_of _ (by decide +kernel)) (goodIn_sub (fun w h => List.mem_cons_of_mem _ (List.mem_append_right _ (List.mem_append_right _ (List.mem_append_right _ (List.mem_append_right _ (List.mem_append_left _ h)))))) gd_c_learn)
theorem g_h_way_c_soonest_167 : GoodIn zs_h_way (wsV RX11 167 RX4 yX4_soonest zs_c_soonest) := goodIn_app (goodIn_of _ (by decide +kernel)) (goodIn_sub (fun w h => List.mem_cons_of_mem _ (List.mem_append_right _ (List.mem_append_right _ (List.mem_append_right _ (List.mem_append_right _ (List.mem_append_right _ (List.mem_append_left _ h))))))) gd_c_soonest)
abbrev ws_h_way (cB cI cJ cZ cQ : ClassId) (aH aRa qId qRe aF : Nat) (iFr : Int32) (iTo : Int32) (iHr : Int32) (iN : Int32) (fId : Nat → Int64) (fR : Nat → Int32) (fsaH : List Value) (fsaRa : List Value) (fsaF : List Value) : va_W := [(aH, .inr (11, fsaH)), (aRa, .inr (4, fsaRa)), (qId, .inl (cJ, 16, .inr (.inl fId))), (qRe, .inl (cI, 6, .inl fR)), (aF, .inr (0, fsaF))]
set_option maxHeartbeats 4000000 in
set_option maxRecDepth 100000 in
theorem h_way (l : Launch) (dC : Nat → ClassId) (dI : Nat → Nat → Nat) (cB cI cJ cZ cQ : ClassId) (aH aRa qId qRe aF : Nat) (iFr : Int32) (iTo : Int32) (iHr : Int32) (iN : Int32) (fId : Nat → Int64) (fR : Nat → Int32) (fsaH : List Value) (fsaRa : List Value) (fsaF : List Value) (sz : Nat) (hlaH : fsaH.length = 13) (haH_3 : fsaH[3]? = some (.ref aRa)) (haH_5 : fsaH[5]? = some (.ref aF)) (hlaRa : fsaRa.length = 8) (haRa_4 : fsaRa[4]? = some (.ref qId)) (haRa_5 : fsaRa[5]? = some (.ref qRe)) (haRa_6 : fsaRa[6]? = some (.int 1)) (haRa_7 : fsaRa[7]? = some (.int 0)) (hlaF : fsaF.length = 5) (haF_4 : fsaF[4]? = some (.int 0)) : Met l yX11_way zs_h_way ({ frames := 3, cells := 0, slots := 0, locals := 76 } : Room) (zPc [.ref aH, .int iFr, .int iTo, .int iHr, .int iN] (dC, dI) (zTY cB cI cJ cZ cQ) (ws_h_way cB cI cJ cZ cQ aH aRa qId qRe aF iFr iTo iHr iN fId fR fsaH fsaRa fsaF) sz) (va_Qi (fun (zr : Int32) (_ : Unit) => zr = sp_way iFr iTo iHr iN) (fun (_ : Unit) (_ : State) => True) (va_A (ws_h_way cB cI cJ cZ cQ aH aRa qId qRe aF iFr iTo iHr iN fId fR fsaH fsaRa fsaF) sz)) 0 0 (va_A (ws_h_way cB cI cJ cZ cQ aH aRa qId qRe aF iFr iTo iHr iN fId fR fsaH fsaRa fsaF) sz) := by
  refine Met.ofW (cc := cX11_way) (maxL := 5) (ret := (some .int)) (by decide) rfl ?_
  intro p e s m args below meth c s₁ B hml hv
  obtain ⟨rfl, hsz, hP0, hK, hO, hD0⟩ := hv
  have hx := B.exec
  have hb := B.bytes
  have hr := B.returns
  have hts := atoms_spec (ws := zs_h_way) B.pre
  have hown : s.vm.findClass RX11 = some m.cls := findClass_of_methodNamed B.named
  have hlocks := B.notSynchronized
  subst hsz
  have hD8 := hD0.self (sz := s.heap.size)
  generalize hAe : va_A (ws_h_way cB cI cJ cZ cQ aH aRa qId qRe aF iFr iTo iHr iN fId fR fsaH fsaRa fsaF) s.heap.size = A at hD8 ⊢
  have hA : ∀ q : Nat, s.heap.size ≤ q → A q := fun q h => by rw [← hAe]; exact Or.inr h
  have hS : va_S A s.heap s.heap [] := va_S.rf
  have hP : va_P (dC, dI) vwCl [(aH, .inr (11, fsaH)), (aRa, .inr (4, fsaRa)), (qId, .inl (cJ, 16, .inr (.inl fId))), (qRe, .inl (cI, 6, .inl fR)), (aF, .inr (0, fsaF))] s.heap := hP0
  have hD : va_D A [(aH, .inr (11, fsaH)), (aRa, .inr (4, fsaRa)), (qId, .inl (cJ, 16, .inr (.inl fId))), (qRe, .inl (cI, 6, .inl fR)), (aF, .inr (0, fsaF))] := hD8
  have hl := lv_entry ([.ref aH, .int iFr, .int iTo, .int iHr, .int iN]) (n := 5) (Nat.le_of_ble_eq_true rfl)
  rw [lg_entry_eq]
  generalize (lg_sl ([.ref aH, .int iFr, .int iTo, .int iHr, .int iN]) ++ List.replicate (5 - (lg_sl ([.ref aH, .int iFr, .int iTo, .int iHr, .int iN])).length) Slot.unset).toArray = ls at hl ⊢
  have hl : lv_has ls 5 [(0, .ref aH), (1, .int iFr), (2, .int iTo), (3, .int iHr), (4, .int iN)] := hl
  clear hP0 hD8 hD0
  refine zH0 (fun H hP hS => ?_) hP hS
  refine lv_aload_n hx hb dX11_way_0 rfl (lv_at hl 0 rfl) ?_
  refine va_get (D := (dC, dI)) (ci := 11) (v := .ref aRa) (C := RX11) (T := TX11) (N := 13) hx hb hts in_h_way_11 hown hK hP 0 rfl rfl 3 (by decide) (hts (.fieldLink RX11 35 "LanternHouse" "rails" "LLanternHouse$Rails;") (by decide +kernel)) (fun _ h9 => h9) haH_3 dX11_way_1 ?_
  refine lv_iload_n hx hb dX11_way_4 rfl (lv_at hl 1 rfl) ?_
  have hPc : va_P (dC, dI) vwCl (ws_c_isHall cB cI cJ cZ cQ aRa iFr fsaRa) H := hP.sub [1] rfl
  have hDc := hD.sub (ws' := (ws_c_isHall cB cI cJ cZ cQ aRa iFr fsaRa)) [1] (by decide) rfl
  have hFc := va_free (wc := (ws_c_isHall cB cI cJ cZ cQ aRa iFr fsaRa)) hD hS hA [1] rfl
  refine va_calli (va_runV (As := [.int iFr]) (rest := []) ⟨hx, hb, hml, hown, hts⟩ (c_isHall l dC dI cB cI cJ cZ cQ aRa iFr fsaRa H.size hlaRa haRa_6) (cwV 1 hts g_h_way_c_isHall_154 rfl rfl rfl (by decide +kernel) ⟨Nat.le_of_ble_eq_true rfl, Nat.le_of_ble_eq_true rfl⟩) ⟨zFB, va_recv hK hP (ci := 4) (q0 := 1) rfl rfl, fun U hU hW => zUp hU hW hPc hK hO hDc⟩ rfl rfl hl.1 rfl (lv_room (Nat.le_of_ble_eq_true rfl)) dX11_way_5 ⟨Nat.le_of_ble_eq_true rfl, Nat.le_of_ble_eq_true rfl⟩) hS (fun q _ h => hFc q h) hFc (fun r1 u t H1 locs ht hvm hw2 hB hz1 hk1 hS => ?_)
  obtain ⟨gs3, hgl4, hgf5, hP1, hD1⟩ := hB
  rw [ht] at hP1
  obtain ⟨hP, hD⟩ := va_join (wr := [(aH, .inr (11, fsaH)), (qId, .inl (cJ, 16, .inr (.inl fId))), (qRe, .inl (cI, 6, .inl fR)), (aF, .inr (0, fsaF))]) (w1 := [(aRa, .inr (4, gs3))]) hP hD [1] [0, 2, 3, 4] rfl rfl (by decide) (by decide) hk1 hFc hP1 hD1
  generalize H1 = H at hP hS ⊢
  have hP : va_P (dC, dI) vwCl [(aH, .inr (11, fsaH)), (qId, .inl (cJ, 16, .inr (.inl fId))), (qRe, .inl (cI, 6, .inl fR)), (aF, .inr (0, fsaF)), (aRa, .inr (4, gs3))] H := hP
  have hD : va_D A [(aH, .inr (11, fsaH)), (qId, .inl (cJ, 16, .inr (.inl fId))), (qRe, .inl (cI, 6, .inl fR)), (aF, .inr (0, fsaF)), (aRa, .inr (4, gs3))] := hD
  rcases hw2 with ⟨rfl, c6⟩ | ⟨rfl, c7⟩
  · skip
    have ziFr : iFr = 0 := z_inj (by simp only [Int32.lt_iff_toInt_lt, Int32.le_iff_toInt_le, ← Int32.toInt_inj, zi_m1, zi_0, zi_1, zi_6, zi_8, zi_M, zi_16, zi_20, zi_23, zi_24, zi_27, zi_29, zi_30, zi_40, zi_500, zi_700, zi_1000] at c6 ⊢<;> omega)
    subst ziFr
    refine lv_if_eq (tgt := 42) hx hb dX11_way_8 (by decide) (fun zc => absurd zc (by decide)) (fun _ => ?_)
    refine lv_aload_n hx hb dX11_way_11 rfl (lv_at hl 0 rfl) ?_
    refine va_get (D := (dC, dI)) (ci := 11) (v := .ref aRa) (C := RX11) (T := TX11) (N := 13) hx hb hts in_h_way_11 hown hK hP 0 rfl rfl 3 (by decide) (hts (.fieldLink RX11 35 "LanternHouse" "rails" "LLanternHouse$Rails;") (by decide +kernel)) (fun _ h9 => h9) haH_3 dX11_way_12 ?_
    refine lv_iload_n hx hb dX11_way_15 rfl (lv_at hl 2 rfl) ?_
    have hPc : va_P (dC, dI) vwCl (ws_c_isHall cB cI cJ cZ cQ aRa iTo gs3) H := hP.sub [4] rfl
    have hDc := hD.sub (ws' := (ws_c_isHall cB cI cJ cZ cQ aRa iTo gs3)) [4] (by decide) rfl
    have hFc := va_free (wc := (ws_c_isHall cB cI cJ cZ cQ aRa iTo gs3)) hD hS hA [4] rfl
    refine va_calli (va_runV (As := [.int iTo]) (rest := []) ⟨hx, hb, hml, hown, hts⟩ (c_isHall l dC dI cB cI cJ cZ cQ aRa iTo gs3 H.size hgl4 ((hgf5 6 (by decide)).trans haRa_6)) (cwV 1 hts g_h_way_c_isHall_154 rfl rfl rfl (by decide +kernel) ⟨Nat.le_of_ble_eq_true rfl, Nat.le_of_ble_eq_true rfl⟩) ⟨zFB, va_recv hK hP (ci := 4) (q0 := 4) rfl rfl, fun U hU hW => zUp hU hW hPc hK hO hDc⟩ rfl rfl hl.1 rfl (lv_room (Nat.le_of_ble_eq_true rfl)) dX11_way_16 ⟨Nat.le_of_ble_eq_true rfl, Nat.le_of_ble_eq_true rfl⟩) hS (fun q _ h => hFc q h) hFc (fun r8 u t H1 locs ht hvm hw9 hB hz1 hk1 hS => ?_)
    obtain ⟨gs10, hgl11, hgf12, hP1, hD1⟩ := hB
    rw [ht] at hP1
    obtain ⟨hP, hD⟩ := va_join (wr := [(aH, .inr (11, fsaH)), (qId, .inl (cJ, 16, .inr (.inl fId))), (qRe, .inl (cI, 6, .inl fR)), (aF, .inr (0, fsaF))]) (w1 := [(aRa, .inr (4, gs10))]) hP hD [4] [0, 1, 2, 3] rfl rfl (by decide) (by decide) hk1 hFc hP1 hD1
    generalize H1 = H at hP hS ⊢
    have hP : va_P (dC, dI) vwCl [(aH, .inr (11, fsaH)), (qId, .inl (cJ, 16, .inr (.inl fId))), (qRe, .inl (cI, 6, .inl fR)), (aF, .inr (0, fsaF)), (aRa, .inr (4, gs10))] H := hP
    have hD : va_D A [(aH, .inr (11, fsaH)), (qId, .inl (cJ, 16, .inr (.inl fId))), (qRe, .inl (cI, 6, .inl fR)), (aF, .inr (0, fsaF)), (aRa, .inr (4, gs10))] := hD
    rcases hw9 with ⟨rfl, c13⟩ | ⟨rfl, c14⟩
    · skip
      have ziTo : iTo = 0 := z_inj (by simp only [Int32.lt_iff_toInt_lt, Int32.le_iff_toInt_le, ← Int32.toInt_inj, zi_m1, zi_0, zi_1, zi_6, zi_8, zi_M, zi_16, zi_20, zi_23, zi_24, zi_27, zi_29, zi_30, zi_40, zi_500, zi_700, zi_1000] at c6 c13 ⊢<;> omega)
      subst ziTo
      refine lv_if_eq (tgt := 42) hx hb dX11_way_19 (by decide) (fun zc => absurd zc (by decide)) (fun _ => ?_)
      refine lv_aload_n hx hb dX11_way_22 rfl (lv_at hl 0 rfl) ?_
      refine lv_iload_n hx hb dX11_way_23 rfl (lv_at hl 3 rfl) ?_
      have hPc : va_P (dC, dI) vwCl (ws_h_isHour cB cI cJ cZ cQ aH iHr fsaH) H := hP.sub [0] rfl
      have hDc := hD.sub (ws' := (ws_h_isHour cB cI cJ cZ cQ aH iHr fsaH)) [0] (by decide) rfl
      have hFc := va_free (wc := (ws_h_isHour cB cI cJ cZ cQ aH iHr fsaH)) hD hS hA [0] rfl
      refine va_calli (va_runV (As := [.int iHr]) (rest := []) ⟨hx, hb, hml, hown, hts⟩ (h_isHour l dC dI cB cI cJ cZ cQ aH iHr fsaH H.size hlaH) (cwV 1 hts g_h_way_h_isHour_151 rfl rfl rfl (by decide +kernel) ⟨Nat.le_of_ble_eq_true rfl, Nat.le_of_ble_eq_true rfl⟩) ⟨zFB, va_recv hK hP (ci := 11) (q0 := 0) rfl rfl, fun U hU hW => zUp hU hW hPc hK hO hDc⟩ rfl rfl hl.1 rfl (lv_room (Nat.le_of_ble_eq_true rfl)) dX11_way_24 ⟨Nat.le_of_ble_eq_true rfl, Nat.le_of_ble_eq_true rfl⟩) hS (fun q _ h => hFc q h) hFc (fun r15 u t H1 locs ht hvm hw16 hB hz1 hk1 hS => ?_)
      obtain ⟨gs17, hgl18, hgf19, hP1, hD1⟩ := hB
      rw [ht] at hP1
      obtain ⟨hP, hD⟩ := va_join (wr := [(qId, .inl (cJ, 16, .inr (.inl fId))), (qRe, .inl (cI, 6, .inl fR)), (aF, .inr (0, fsaF)), (aRa, .inr (4, gs10))]) (w1 := [(aH, .inr (11, gs17))]) hP hD [0] [1, 2, 3, 4] rfl rfl (by decide) (by decide) hk1 hFc hP1 hD1
      generalize H1 = H at hP hS ⊢
      have hP : va_P (dC, dI) vwCl [(qId, .inl (cJ, 16, .inr (.inl fId))), (qRe, .inl (cI, 6, .inl fR)), (aF, .inr (0, fsaF)), (aRa, .inr (4, gs10)), (aH, .inr (11, gs17))] H := hP
      have hD : va_D A [(qId, .inl (cJ, 16, .inr (.inl fId))), (qRe, .inl (cI, 6, .inl fR)), (aF, .inr (0, fsaF)), (aRa, .inr (4, gs10)), (aH, .inr (11, gs17))] := hD
      rcases hw16 with ⟨rfl, c20, c21⟩ | ⟨rfl, c22⟩ | ⟨rfl, c23⟩
      · skip
        refine lv_if_eq (tgt := 42) hx hb dX11_way_27 (by decide) (fun zc => absurd zc (by decide)) (fun _ => ?_)
        refine lv_aload_n hx hb dX11_way_30 rfl (lv_at hl 0 rfl) ?_
        refine va_get (D := (dC, dI)) (ci := 11) (v := .ref aF) (C := RX11) (T := TX11) (N := 13) hx hb hts in_h_way_11 hown hK hP 4 rfl rfl 5 (by decide) (hts (.fieldLink RX11 49 "LanternHouse" "facts" "LLanternHouse$Facts;") (by decide +kernel)) (fun _ h9 => h9) ((hgf19 5 (by decide)).trans haH_5) dX11_way_31 ?_
        refine lv_iload hx hb dX11_way_34 (lv_at hl 4 rfl) ?_
        have hPc : va_P (dC, dI) vwCl (ws_c_isKnown cB cI cJ cZ cQ aF iN fsaF) H := hP.sub [2] rfl
        have hDc := hD.sub (ws' := (ws_c_isKnown cB cI cJ cZ cQ aF iN fsaF)) [2] (by decide) rfl
        have hFc := va_free (wc := (ws_c_isKnown cB cI cJ cZ cQ aF iN fsaF)) hD hS hA [2] rfl
        refine va_calli (va_runV (As := [.int iN]) (rest := []) ⟨hx, hb, hml, hown, hts⟩ (c_isKnown l dC dI cB cI cJ cZ cQ aF iN fsaF H.size hlaF haF_4) (cwV 1 hts g_h_way_c_isKnown_160 rfl rfl rfl (by decide +kernel) ⟨Nat.le_of_ble_eq_true rfl, Nat.le_of_ble_eq_true rfl⟩) ⟨zFB, va_recv hK hP (ci := 0) (q0 := 2) rfl rfl, fun U hU hW => zUp hU hW hPc hK hO hDc⟩ rfl rfl hl.1 rfl (lv_room (Nat.le_of_ble_eq_true rfl)) dX11_way_36 ⟨Nat.le_of_ble_eq_true rfl, Nat.le_of_ble_eq_true rfl⟩) hS (fun q _ h => hFc q h) hFc (fun r24 u t H1 locs ht hvm hw25 hB hz1 hk1 hS => ?_)
        obtain ⟨gs26, hgl27, hgf28, hP1, hD1⟩ := hB
        rw [ht] at hP1
        obtain ⟨hP, hD⟩ := va_join (wr := [(qId, .inl (cJ, 16, .inr (.inl fId))), (qRe, .inl (cI, 6, .inl fR)), (aRa, .inr (4, gs10)), (aH, .inr (11, gs17))]) (w1 := [(aF, .inr (0, gs26))]) hP hD [2] [0, 1, 3, 4] rfl rfl (by decide) (by decide) hk1 hFc hP1 hD1
        generalize H1 = H at hP hS ⊢
        have hP : va_P (dC, dI) vwCl [(qId, .inl (cJ, 16, .inr (.inl fId))), (qRe, .inl (cI, 6, .inl fR)), (aRa, .inr (4, gs10)), (aH, .inr (11, gs17)), (aF, .inr (0, gs26))] H := hP
        have hD : va_D A [(qId, .inl (cJ, 16, .inr (.inl fId))), (qRe, .inl (cI, 6, .inl fR)), (aRa, .inr (4, gs10)), (aH, .inr (11, gs17)), (aF, .inr (0, gs26))] := hD
        rcases hw25 with ⟨rfl, c29⟩ | ⟨rfl, c30⟩
        · skip
          have ziN : iN = 0 := z_inj (by simp only [Int32.lt_iff_toInt_lt, Int32.le_iff_toInt_le, ← Int32.toInt_inj, zi_m1, zi_0, zi_1, zi_6, zi_8, zi_M, zi_16, zi_20, zi_23, zi_24, zi_27, zi_29, zi_30, zi_40, zi_500, zi_700, zi_1000] at c6 c13 c20 c21 c29 ⊢<;> omega)
          subst ziN
          refine lv_if_ne (tgt := 44) hx hb dX11_way_39 (by decide) (fun _ => ?_) (fun zc => absurd zc (by decide))
          refine lv_aload_n hx hb dX11_way_44 rfl (lv_at hl 0 rfl) ?_
          refine va_get (D := (dC, dI)) (ci := 11) (v := .ref aRa) (C := RX11) (T := TX11) (N := 13) hx hb hts in_h_way_11 hown hK hP 3 rfl rfl 3 (by decide) (hts (.fieldLink RX11 35 "LanternHouse" "rails" "LLanternHouse$Rails;") (by decide +kernel)) (fun _ h9 => h9) ((hgf19 3 (by decide)).trans haH_3) dX11_way_45 ?_
          refine lv_aload_n hx hb dX11_way_48 rfl (lv_at hl 0 rfl) ?_
          refine va_get (D := (dC, dI)) (ci := 11) (v := .ref aF) (C := RX11) (T := TX11) (N := 13) hx hb hts in_h_way_11 hown hK hP 3 rfl rfl 5 (by decide) (hts (.fieldLink RX11 49 "LanternHouse" "facts" "LLanternHouse$Facts;") (by decide +kernel)) (fun _ h9 => h9) ((hgf19 5 (by decide)).trans haH_5) dX11_way_49 ?_
          refine lv_iload hx hb dX11_way_52 (lv_at hl 4 rfl) ?_
          have hPc : va_P (dC, dI) vwCl (ws_c_learn cB cI cJ cZ cQ aRa qId aF fId gs10) H := hP.sub [2, 0] rfl
          have hDc := hD.sub (ws' := (ws_c_learn cB cI cJ cZ cQ aRa qId aF fId gs10)) [2, 0] (by decide) rfl
          have hFc := va_free (wc := (ws_c_learn cB cI cJ cZ cQ aRa qId aF fId gs10)) hD hS hA [2, 0] rfl
          refine va_callv (va_runV (As := [.ref aF, .int 0]) (rest := []) ⟨hx, hb, hml, hown, hts⟩ (c_learn l dC dI cB cI cJ cZ cQ aRa qId aF fId gs10 H.size hgl11 ((hgf12 4 (by decide)).trans ((hgf5 4 (by decide)).trans haRa_4))) (cwV 2 hts g_h_way_c_learn_163 rfl rfl rfl (by decide +kernel) ⟨Nat.le_of_ble_eq_true rfl, Nat.le_of_ble_eq_true rfl⟩) ⟨zFB, va_recv hK hP (ci := 4) (q0 := 2) rfl rfl, fun U hU hW => zUp hU hW hPc hK hO hDc⟩ rfl rfl hl.1 rfl (lv_room (Nat.le_of_ble_eq_true rfl)) dX11_way_54 ⟨Nat.le_of_ble_eq_true rfl, Nat.le_of_ble_eq_true rfl⟩) hS (fun q _ h => hFc q h) hFc (fun u t H1 locs ht hvm hw32 hB hz1 hk1 hS => ?_)
          obtain ⟨fId233, gs34, hgl35, hgf36, hP1, hD1⟩ := hB
          rw [ht] at hP1
          obtain ⟨hP, hD⟩ := va_join (wr := [(qRe, .inl (cI, 6, .inl fR)), (aH, .inr (11, gs17)), (aF, .inr (0, gs26))]) (w1 := [(aRa, .inr (4, gs34)), (qId, .inl (cJ, 16, .inr (.inl fId233)))]) hP hD [2, 0] [1, 3, 4] rfl rfl (by decide) (by decide) hk1 hFc hP1 hD1
          generalize H1 = H at hP hS ⊢
          have hP : va_P (dC, dI) vwCl [(qRe, .inl (cI, 6, .inl fR)), (aH, .inr (11, gs17)), (aF, .inr (0, gs26)), (aRa, .inr (4, gs34)), (qId, .inl (cJ, 16, .inr (.inl fId233)))] H := hP
          have hD : va_D A [(qRe, .inl (cI, 6, .inl fR)), (aH, .inr (11, gs17)), (aF, .inr (0, gs26)), (aRa, .inr (4, gs34)), (qId, .inl (cJ, 16, .inr (.inl fId233)))] := hD
          refine lv_aload_n hx hb dX11_way_57 rfl (lv_at hl 0 rfl) ?_
          refine va_get (D := (dC, dI)) (ci := 11) (v := .ref aRa) (C := RX11) (T := TX11) (N := 13) hx hb hts in_h_way_11 hown hK hP 1 rfl rfl 3 (by decide) (hts (.fieldLink RX11 35 "LanternHouse" "rails" "LLanternHouse$Rails;") (by decide +kernel)) (fun _ h9 => h9) ((hgf19 3 (by decide)).trans haH_3) dX11_way_58 ?_
          refine lv_iload_n hx hb dX11_way_61 rfl (lv_at hl 1 rfl) ?_
          refine lv_iload_n hx hb dX11_way_62 rfl (lv_at hl 2 rfl) ?_
          refine lv_iload_n hx hb dX11_way_63 rfl (lv_at hl 3 rfl) ?_
          have hPc : va_P (dC, dI) vwCl (ws_c_soonest cB cI cJ cZ cQ aRa qRe iHr fR gs34) H := hP.sub [3, 0] rfl
          have hDc := hD.sub (ws' := (ws_c_soonest cB cI cJ cZ cQ aRa qRe iHr fR gs34)) [3, 0] (by decide) rfl
          have hFc := va_free (wc := (ws_c_soonest cB cI cJ cZ cQ aRa qRe iHr fR gs34)) hD hS hA [3, 0] rfl
          refine va_calli (va_runV (As := [.int 0, .int 0, .int iHr]) (rest := []) ⟨hx, hb, hml, hown, hts⟩ (c_soonest l dC dI cB cI cJ cZ cQ aRa qRe iHr fR gs34 H.size hgl35 ((hgf36 5 (by decide)).trans ((hgf12 5 (by decide)).trans ((hgf5 5 (by decide)).trans haRa_5))) ((hgf36 7 (by decide)).trans ((hgf12 7 (by decide)).trans ((hgf5 7 (by decide)).trans haRa_7)))) (cwV 3 hts g_h_way_c_soonest_167 rfl rfl rfl (by decide +kernel) ⟨Nat.le_of_ble_eq_true rfl, Nat.le_of_ble_eq_true rfl⟩) ⟨zFB, va_recv hK hP (ci := 4) (q0 := 3) rfl rfl, fun U hU hW => zUp hU hW hPc hK hO hDc⟩ rfl rfl hl.1 rfl (lv_room (Nat.le_of_ble_eq_true rfl)) dX11_way_64 ⟨Nat.le_of_ble_eq_true rfl, Nat.le_of_ble_eq_true rfl⟩) hS (fun q _ h => hFc q h) hFc (fun r37 u t H1 locs ht hvm hw38 hB hz1 hk1 hS => ?_)
          have hP1 : va_P (dC, dI) vwCl [] H1 := zNilP
          have hD1 : va_D (va_A (ws_c_soonest cB cI cJ cZ cQ aRa qRe iHr fR gs34) H.size) [] := zNilD
          obtain ⟨hP, hD⟩ := va_join (wr := [(aH, .inr (11, gs17)), (aF, .inr (0, gs26)), (qId, .inl (cJ, 16, .inr (.inl fId233)))]) (w1 := []) hP hD [3, 0] [1, 2, 4] rfl rfl (by decide) (by decide) hk1 hFc hP1 hD1
          generalize H1 = H at hP hS ⊢
          have hP : va_P (dC, dI) vwCl [(aH, .inr (11, gs17)), (aF, .inr (0, gs26)), (qId, .inl (cJ, 16, .inr (.inl fId233)))] H := hP
          have hD : va_D A [(aH, .inr (11, gs17)), (aF, .inr (0, gs26)), (qId, .inl (cJ, 16, .inr (.inl fId233)))] := hD
          rw [hw38]
          exact W.iret (v := iHr) hx hb hr (fun t ht hW => ⟨⟨iHr, (), rfl, (by first | rfl | decide | (unfold sp_way; split <;> rename_i zh <;> first | rfl | (exfalso; simp only [Int32.lt_iff_toInt_lt, Int32.le_iff_toInt_le, ← Int32.toInt_inj, zi_m1, zi_0, zi_1, zi_6, zi_8, zi_M, zi_16, zi_20, zi_23, zi_24, zi_27, zi_29, zi_30, zi_40, zi_500, zi_700, zi_1000, true_and, and_true] at zh c6 c13 c20 c21 c29 <;> omega))), trivial⟩, hS.F ht⟩) hS.2.2 dX11_way_67
        · skip
          refine lv_if_ne (tgt := 44) hx hb dX11_way_39 (by decide) (fun zc => absurd zc (by decide)) (fun _ => ?_)
          refine lv_iconst (v := (-1)) hx hb dX11_way_42 (by decide) ?_
          exact W.iret (v := (-1)) hx hb hr (fun t ht hW => ⟨⟨(-1), (), rfl, (by first | rfl | decide | (unfold sp_way; split <;> rename_i zh <;> first | rfl | (exfalso; simp only [Int32.lt_iff_toInt_lt, Int32.le_iff_toInt_le, ← Int32.toInt_inj, zi_m1, zi_0, zi_1, zi_6, zi_8, zi_M, zi_16, zi_20, zi_23, zi_24, zi_27, zi_29, zi_30, zi_40, zi_500, zi_700, zi_1000, true_and, and_true] at zh c6 c13 c20 c21 c30 <;> omega))), trivial⟩, hS.F ht⟩) hS.2.2 dX11_way_43
      · skip
        refine lv_if_eq (tgt := 42) hx hb dX11_way_27 (by decide) (fun _ => ?_) (fun zc => absurd zc (by decide))
        refine lv_iconst (v := (-1)) hx hb dX11_way_42 (by decide) ?_
        exact W.iret (v := (-1)) hx hb hr (fun t ht hW => ⟨⟨(-1), (), rfl, (by first | rfl | decide | (unfold sp_way; split <;> rename_i zh <;> first | rfl | (exfalso; simp only [Int32.lt_iff_toInt_lt, Int32.le_iff_toInt_le, ← Int32.toInt_inj, zi_m1, zi_0, zi_1, zi_6, zi_8, zi_M, zi_16, zi_20, zi_23, zi_24, zi_27, zi_29, zi_30, zi_40, zi_500, zi_700, zi_1000, true_and, and_true] at zh c6 c13 c22 <;> omega))), trivial⟩, hS.F ht⟩) hS.2.2 dX11_way_43
      · skip
        refine lv_if_eq (tgt := 42) hx hb dX11_way_27 (by decide) (fun _ => ?_) (fun zc => absurd zc (by decide))
        refine lv_iconst (v := (-1)) hx hb dX11_way_42 (by decide) ?_
        exact W.iret (v := (-1)) hx hb hr (fun t ht hW => ⟨⟨(-1), (), rfl, (by first | rfl | decide | (unfold sp_way; split <;> rename_i zh <;> first | rfl | (exfalso; simp only [Int32.lt_iff_toInt_lt, Int32.le_iff_toInt_le, ← Int32.toInt_inj, zi_m1, zi_0, zi_1, zi_6, zi_8, zi_M, zi_16, zi_20, zi_23, zi_24, zi_27, zi_29, zi_30, zi_40, zi_500, zi_700, zi_1000, true_and, and_true] at zh c6 c13 c23 <;> omega))), trivial⟩, hS.F ht⟩) hS.2.2 dX11_way_43
    · skip
      refine lv_if_eq (tgt := 42) hx hb dX11_way_19 (by decide) (fun _ => ?_) (fun zc => absurd zc (by decide))
      refine lv_iconst (v := (-1)) hx hb dX11_way_42 (by decide) ?_
      exact W.iret (v := (-1)) hx hb hr (fun t ht hW => ⟨⟨(-1), (), rfl, (by first | rfl | decide | (unfold sp_way; split <;> rename_i zh <;> first | rfl | (exfalso; simp only [Int32.lt_iff_toInt_lt, Int32.le_iff_toInt_le, ← Int32.toInt_inj, zi_m1, zi_0, zi_1, zi_6, zi_8, zi_M, zi_16, zi_20, zi_23, zi_24, zi_27, zi_29, zi_30, zi_40, zi_500, zi_700, zi_1000, true_and, and_true] at zh c6 c14 <;> omega))), trivial⟩, hS.F ht⟩) hS.2.2 dX11_way_43
  · skip
    refine lv_if_eq (tgt := 42) hx hb dX11_way_8 (by decide) (fun _ => ?_) (fun zc => absurd zc (by decide))
    refine lv_iconst (v := (-1)) hx hb dX11_way_42 (by decide) ?_
    exact W.iret (v := (-1)) hx hb hr (fun t ht hW => ⟨⟨(-1), (), rfl, (by first | rfl | decide | (unfold sp_way; split <;> rename_i zh <;> first | rfl | (exfalso; simp only [Int32.lt_iff_toInt_lt, Int32.le_iff_toInt_le, ← Int32.toInt_inj, zi_m1, zi_0, zi_1, zi_6, zi_8, zi_M, zi_16, zi_20, zi_23, zi_24, zi_27, zi_29, zi_30, zi_40, zi_500, zi_700, zi_1000, true_and, and_true] at zh c7 <;> omega))), trivial⟩, hS.F ht⟩) hS.2.2 dX11_way_43

def zs_h_broken : List Cond := .code yX11_broken cX11_broken 4 (some .int) :: (([.methodLink RX11 147 yX11_isPlate, .instanceMethod yX11_isPlate, .selects RX11 yX11_isPlate yX11_isPlate, .initialized RX11] : List Cond) ++ (zs_h_isPlate ++ []))
theorem gd_h_broken : (zs_h_broken).all goodWord = true := by decide +kernel
theorem g_h_broken_h_isPlate_147 : GoodIn zs_h_broken (wsV RX11 147 RX11 yX11_isPlate zs_h_isPlate) := goodIn_app (goodIn_of _ (by decide +kernel)) (goodIn_sub (fun w h => List.mem_cons_of_mem _ (List.mem_append_right _ (List.mem_append_left _ h))) gd_h_isPlate)
abbrev ws_h_broken (cB cI cJ cZ cQ : ClassId) (aH aS : Nat) (iP : Int32) (iHr : Int32) (iN : Int32) (fsaH : List Value) (fsaS : List Value) : va_W := [(aH, .inr (11, fsaH)), (aS, .inr (8, fsaS))]
set_option maxHeartbeats 4000000 in
set_option maxRecDepth 100000 in
theorem h_broken (l : Launch) (dC : Nat → ClassId) (dI : Nat → Nat → Nat) (cB cI cJ cZ cQ : ClassId) (aH aS : Nat) (iP : Int32) (iHr : Int32) (iN : Int32) (fsaH : List Value) (fsaS : List Value) (sz : Nat) (hlaH : fsaH.length = 13) (haH_4 : fsaH[4]? = some (.ref aS)) (hlaS : fsaS.length = 3) (haS_2 : fsaS[2]? = some (.int 0)) : Met l yX11_broken zs_h_broken ({ frames := 1, cells := 0, slots := 0, locals := 21 } : Room) (zPc [.ref aH, .int iP, .int iHr, .int iN] (dC, dI) (zTY cB cI cJ cZ cQ) (ws_h_broken cB cI cJ cZ cQ aH aS iP iHr iN fsaH fsaS) sz) (va_Qi (fun (zr : Int32) (_ : Unit) => zr = (-1)) (fun (_ : Unit) (_ : State) => True) (va_A (ws_h_broken cB cI cJ cZ cQ aH aS iP iHr iN fsaH fsaS) sz)) 0 0 (va_A (ws_h_broken cB cI cJ cZ cQ aH aS iP iHr iN fsaH fsaS) sz) := by
  refine Met.ofW (cc := cX11_broken) (maxL := 4) (ret := (some .int)) (by decide) rfl ?_
  intro p e s m args below meth c s₁ B hml hv
  obtain ⟨rfl, hsz, hP0, hK, hO, hD0⟩ := hv
  have hx := B.exec
  have hb := B.bytes
  have hr := B.returns
  have hts := atoms_spec (ws := zs_h_broken) B.pre
  have hown : s.vm.findClass RX11 = some m.cls := findClass_of_methodNamed B.named
  have hlocks := B.notSynchronized
  subst hsz
  have hD8 := hD0.self (sz := s.heap.size)
  generalize hAe : va_A (ws_h_broken cB cI cJ cZ cQ aH aS iP iHr iN fsaH fsaS) s.heap.size = A at hD8 ⊢
  have hA : ∀ q : Nat, s.heap.size ≤ q → A q := fun q h => by rw [← hAe]; exact Or.inr h
  have hS : va_S A s.heap s.heap [] := va_S.rf
  have hP : va_P (dC, dI) vwCl [(aH, .inr (11, fsaH)), (aS, .inr (8, fsaS))] s.heap := hP0
  have hD : va_D A [(aH, .inr (11, fsaH)), (aS, .inr (8, fsaS))] := hD8
  have hl := lv_entry ([.ref aH, .int iP, .int iHr, .int iN]) (n := 4) (Nat.le_of_ble_eq_true rfl)
  rw [lg_entry_eq]
  generalize (lg_sl ([.ref aH, .int iP, .int iHr, .int iN]) ++ List.replicate (4 - (lg_sl ([.ref aH, .int iP, .int iHr, .int iN])).length) Slot.unset).toArray = ls at hl ⊢
  have hl : lv_has ls 4 [(0, .ref aH), (1, .int iP), (2, .int iHr), (3, .int iN)] := hl
  clear hP0 hD8 hD0
  refine zH0 (fun H hP hS => ?_) hP hS
  refine lv_aload_n hx hb dX11_broken_0 rfl (lv_at hl 0 rfl) ?_
  refine lv_iload_n hx hb dX11_broken_1 rfl (lv_at hl 1 rfl) ?_
  have hPc : va_P (dC, dI) vwCl (ws_h_isPlate cB cI cJ cZ cQ aH aS iP fsaH fsaS) H := hP.sub [0, 1] rfl
  have hDc := hD.sub (ws' := (ws_h_isPlate cB cI cJ cZ cQ aH aS iP fsaH fsaS)) [0, 1] (by decide) rfl
  have hFc := va_free (wc := (ws_h_isPlate cB cI cJ cZ cQ aH aS iP fsaH fsaS)) hD hS hA [0, 1] rfl
  refine va_calli (va_runV (As := [.int iP]) (rest := []) ⟨hx, hb, hml, hown, hts⟩ (h_isPlate l dC dI cB cI cJ cZ cQ aH aS iP fsaH fsaS H.size hlaH haH_4 hlaS haS_2) (cwV 1 hts g_h_broken_h_isPlate_147 rfl rfl rfl (by decide +kernel) ⟨Nat.le_of_ble_eq_true rfl, Nat.le_of_ble_eq_true rfl⟩) ⟨zFB, va_recv hK hP (ci := 11) (q0 := 0) rfl rfl, fun U hU hW => zUp hU hW hPc hK hO hDc⟩ rfl rfl hl.1 rfl (lv_room (Nat.le_of_ble_eq_true rfl)) dX11_broken_2 ⟨Nat.le_of_ble_eq_true rfl, Nat.le_of_ble_eq_true rfl⟩) hS (fun q _ h => hFc q h) hFc (fun r1 u t H1 locs ht hvm hw2 hB hz1 hk1 hS => ?_)
  have hP1 : va_P (dC, dI) vwCl [] H1 := zNilP
  have hD1 : va_D (va_A (ws_h_isPlate cB cI cJ cZ cQ aH aS iP fsaH fsaS) H.size) [] := zNilD
  obtain ⟨hP, hD⟩ := va_join (wr := []) (w1 := []) hP hD [0, 1] [] rfl rfl (by decide) (by decide) hk1 hFc hP1 hD1
  generalize H1 = H at hP hS ⊢
  have hP : va_P (dC, dI) vwCl [] H := hP
  have hD : va_D A [] := hD
  obtain rfl : r1 = 0 := hw2
  refine lv_if_eq (tgt := 27) hx hb dX11_broken_5 (by decide) (fun _ => ?_) (fun zc => absurd zc (by decide))
  refine lv_iconst (v := (-1)) hx hb dX11_broken_27 (by decide) ?_
  exact W.iret (v := (-1)) hx hb hr (fun t ht hW => ⟨⟨(-1), (), rfl, rfl, trivial⟩, hS.F ht⟩) hS.2.2 dX11_broken_28

def zs_h_can : List Cond := .code yX11_can cX11_can 3 (some .int) :: (([.fieldLink RX11 61 "LanternHouse" "shows" "LLanternHouse$Shows;", .fieldLink RX11 49 "LanternHouse" "facts" "LLanternHouse$Facts;", .fieldLink RX11 70 "LanternHouse" "keeper" "LLanternHouse$Keeper;", .fieldLink RX11 92 "LanternHouse" "trial" "LLanternHouse$Plan;", .fieldLink RX11 184 "LanternHouse$Plan" "worth" "I", .methodLink RX11 174 yX7_all, .instanceMethod yX7_all, .selects RX7 yX7_all yX7_all, .initialized RX7, .methodLink RX11 160 yX0_isKnown, .instanceMethod yX0_isKnown, .selects RX0 yX0_isKnown yX0_isKnown, .initialized RX0, .methodLink RX11 177 yX1_prepare, .instanceMethod yX1_prepare, .selects RX1 yX1_prepare yX1_prepare, .initialized RX1, .methodLink RX11 180 yX1_keep, .instanceMethod yX1_keep, .selects RX1 yX1_keep yX1_keep] : List Cond) ++ (zs_c_all ++ (zs_c_isKnown ++ (zs_c_prepare ++ (zs_c_keep ++ (wsX110 ++ (wsX30 ++ [])))))))
theorem gd_h_can : (zs_h_can).all goodWord = true := by decide +kernel
theorem in_h_can_11 : ∀ w ∈ wsX110, w ∈ zs_h_can := fun w h => List.mem_cons_of_mem _ (List.mem_append_right _ (List.mem_append_right _ (List.mem_append_right _ (List.mem_append_right _ (List.mem_append_right _ (List.mem_append_left _ h))))))
theorem in_h_can_3 : ∀ w ∈ wsX30, w ∈ zs_h_can := fun w h => List.mem_cons_of_mem _ (List.mem_append_right _ (List.mem_append_right _ (List.mem_append_right _ (List.mem_append_right _ (List.mem_append_right _ (List.mem_append_right _ (List.mem_append_left _ h)))))))
theorem g_h_can_c_all_174 : GoodIn zs_h_can (wsV RX11 174 RX7 yX7_all zs_c_all) := goodIn_app (goodIn_of _ (by decide +kernel)) (goodIn_sub (fun w h => List.mem_cons_of_mem _ (List.mem_append_right _ (List.mem_append_left _ h))) gd_c_all)
theorem g_h_can_c_isKnown_160 : GoodIn zs_h_can (wsV RX11 160 RX0 yX0_isKnown zs_c_isKnown) := goodIn_app (goodIn_of _ (by decide +kernel)) (goodIn_sub (fun w h => List.mem_cons_of_mem _ (List.mem_append_right _ (List.mem_append_right _ (List.mem_append_left _ h)))) gd_c_isKnown)
theorem g_h_can_c_prepare_177 : GoodIn zs_h_can (wsV RX11 177 RX1 yX1_prepare zs_c_prepare) := goodIn_app (goodIn_of _ (by decide +kernel)) (goodIn_sub (fun w h => List.mem_cons_of_mem _ (List.mem_append_right _ (List.mem_append_right _ (List.mem_append_right _ (List.mem_append_left _ h))))) gd_c_prepare)
theorem g_h_can_c_keep_180 : GoodIn zs_h_can (wsV RX11 180 RX1 yX1_keep zs_c_keep) := goodIn_app (goodIn_of _ (by decide +kernel)) (goodIn_sub (fun w h => List.mem_cons_of_mem _ (List.mem_append_right _ (List.mem_append_right _ (List.mem_append_right _ (List.mem_append_right _ (List.mem_append_left _ h)))))) gd_c_keep)
abbrev ws_h_can (cB cI cJ cZ cQ : ClassId) (aH aF aSh aK aRa qId qA q8 qFr aPl : Nat) (iSe : Int32) (iN : Int32) (fId : Nat → Int64) (fQ : Nat → Option Nat) (f8 : Nat → Int32) (fFr : Nat → Int32) (fsaH : List Value) (fsaF : List Value) (fsaSh : List Value) (fsaK : List Value) (fsaRa : List Value) (fsaPl : List Value) : va_W := [(aH, .inr (11, fsaH)), (aF, .inr (0, fsaF)), (aSh, .inr (7, fsaSh)), (aK, .inr (1, fsaK)), (aRa, .inr (4, fsaRa)), (qId, .inl (cJ, 16, .inr (.inl fId))), (qA, .inl (cQ, 9, .inr (.inr (.inr (.inr fQ))))), (q8, .inl (cI, 6, .inl f8)), (qFr, .inl (cI, 20, .inl fFr)), (aPl, .inr (3, fsaPl))]
set_option maxHeartbeats 4000000 in
set_option maxRecDepth 100000 in
theorem h_can (l : Launch) (dC : Nat → ClassId) (dI : Nat → Nat → Nat) (cB cI cJ cZ cQ : ClassId) (aH aF aSh aK aRa qId qA q8 qFr aPl : Nat) (iSe : Int32) (iN : Int32) (fId : Nat → Int64) (fQ : Nat → Option Nat) (f8 : Nat → Int32) (fFr : Nat → Int32) (fsaH : List Value) (fsaF : List Value) (fsaSh : List Value) (fsaK : List Value) (fsaRa : List Value) (fsaPl : List Value) (sz : Nat) (hQ8 : fQ (8 : Int32).toNatClampNeg = (some q8)) (hlaH : fsaH.length = 13) (haH_5 : fsaH[5]? = some (.ref aF)) (haH_6 : fsaH[6]? = some (.ref aSh)) (haH_7 : fsaH[7]? = some (.ref aK)) (haH_11 : fsaH[11]? = some (.ref aPl)) (hlaF : fsaF.length = 5) (haF_4 : fsaF[4]? = some (.int 0)) (hlaSh : fsaSh.length = 8) (haSh_6 : fsaSh[6]? = some (.int 0)) (hlaK : fsaK.length = 8) (haK_0 : fsaK[0]? = some (.ref aSh)) (haK_2 : fsaK[2]? = some (.ref aF)) (haK_3 : fsaK[3]? = some (.ref aRa)) (haK_4 : fsaK[4]? = some (.ref qA)) (haK_6 : fsaK[6]? = some (.ref qFr)) (hlaRa : fsaRa.length = 8) (haRa_4 : fsaRa[4]? = some (.ref qId)) (haRa_7 : fsaRa[7]? = some (.int 0)) (hlaPl : fsaPl.length = 8) : Met l yX11_can zs_h_can ({ frames := 3, cells := 0, slots := 0, locals := 75 } : Room) (zPc [.ref aH, .int iSe, .int iN] (dC, dI) (zTY cB cI cJ cZ cQ) (ws_h_can cB cI cJ cZ cQ aH aF aSh aK aRa qId qA q8 qFr aPl iSe iN fId fQ f8 fFr fsaH fsaF fsaSh fsaK fsaRa fsaPl) sz) (va_Qi (fun (zr : Int32) (_ : Unit) => zr = sp_can iSe iN) (fun (_ : Unit) (_ : State) => True) (va_A (ws_h_can cB cI cJ cZ cQ aH aF aSh aK aRa qId qA q8 qFr aPl iSe iN fId fQ f8 fFr fsaH fsaF fsaSh fsaK fsaRa fsaPl) sz)) 0 0 (va_A (ws_h_can cB cI cJ cZ cQ aH aF aSh aK aRa qId qA q8 qFr aPl iSe iN fId fQ f8 fFr fsaH fsaF fsaSh fsaK fsaRa fsaPl) sz) := by
  refine Met.ofW (cc := cX11_can) (maxL := 3) (ret := (some .int)) (by decide) rfl ?_
  intro p e s m args below meth c s₁ B hml hv
  obtain ⟨rfl, hsz, hP0, hK, hO, hD0⟩ := hv
  have hx := B.exec
  have hb := B.bytes
  have hr := B.returns
  have hts := atoms_spec (ws := zs_h_can) B.pre
  have hown : s.vm.findClass RX11 = some m.cls := findClass_of_methodNamed B.named
  have hlocks := B.notSynchronized
  subst hsz
  have hD8 := hD0.self (sz := s.heap.size)
  generalize hAe : va_A (ws_h_can cB cI cJ cZ cQ aH aF aSh aK aRa qId qA q8 qFr aPl iSe iN fId fQ f8 fFr fsaH fsaF fsaSh fsaK fsaRa fsaPl) s.heap.size = A at hD8 ⊢
  have hA : ∀ q : Nat, s.heap.size ≤ q → A q := fun q h => by rw [← hAe]; exact Or.inr h
  have hS : va_S A s.heap s.heap [] := va_S.rf
  have hP : va_P (dC, dI) vwCl [(aH, .inr (11, fsaH)), (aF, .inr (0, fsaF)), (aSh, .inr (7, fsaSh)), (aK, .inr (1, fsaK)), (aRa, .inr (4, fsaRa)), (qId, .inl (cJ, 16, .inr (.inl fId))), (qA, .inl (cQ, 9, .inr (.inr (.inr (.inr fQ))))), (q8, .inl (cI, 6, .inl f8)), (qFr, .inl (cI, 20, .inl fFr)), (aPl, .inr (3, fsaPl))] s.heap := hP0
  have hD : va_D A [(aH, .inr (11, fsaH)), (aF, .inr (0, fsaF)), (aSh, .inr (7, fsaSh)), (aK, .inr (1, fsaK)), (aRa, .inr (4, fsaRa)), (qId, .inl (cJ, 16, .inr (.inl fId))), (qA, .inl (cQ, 9, .inr (.inr (.inr (.inr fQ))))), (q8, .inl (cI, 6, .inl f8)), (qFr, .inl (cI, 20, .inl fFr)), (aPl, .inr (3, fsaPl))] := hD8
  have hl := lv_entry ([.ref aH, .int iSe, .int iN]) (n := 3) (Nat.le_of_ble_eq_true rfl)
  rw [lg_entry_eq]
  generalize (lg_sl ([.ref aH, .int iSe, .int iN]) ++ List.replicate (3 - (lg_sl ([.ref aH, .int iSe, .int iN])).length) Slot.unset).toArray = ls at hl ⊢
  have hl : lv_has ls 3 [(0, .ref aH), (1, .int iSe), (2, .int iN)] := hl
  clear hP0 hD8 hD0
  refine zH0 (fun H hP hS => ?_) hP hS
  refine lv_iload_n hx hb dX11_can_0 rfl (lv_at hl 1 rfl) ?_
  refine lv_if_lt (tgt := 26) hx hb dX11_can_1 (by decide) (fun c1 => ?_) (fun c1 => ?_)
  · skip
    refine lv_iconst (v := (-1)) hx hb dX11_can_26 (by decide) ?_
    exact W.iret (v := (-1)) hx hb hr (fun t ht hW => ⟨⟨(-1), (), rfl, (by first | rfl | decide | (unfold sp_can; split <;> rename_i zh <;> first | rfl | (exfalso; simp only [Int32.lt_iff_toInt_lt, Int32.le_iff_toInt_le, ← Int32.toInt_inj, zi_m1, zi_0, zi_1, zi_6, zi_8, zi_M, zi_16, zi_20, zi_23, zi_24, zi_27, zi_29, zi_30, zi_40, zi_500, zi_700, zi_1000, true_and, and_true] at zh c1 <;> omega))), trivial⟩, hS.F ht⟩) hS.2.2 dX11_can_27
  · skip
    refine lv_iload_n hx hb dX11_can_4 rfl (lv_at hl 1 rfl) ?_
    refine lv_aload_n hx hb dX11_can_5 rfl (lv_at hl 0 rfl) ?_
    refine va_get (D := (dC, dI)) (ci := 11) (v := .ref aSh) (C := RX11) (T := TX11) (N := 13) hx hb hts in_h_can_11 hown hK hP 0 rfl rfl 6 (by decide) (hts (.fieldLink RX11 61 "LanternHouse" "shows" "LLanternHouse$Shows;") (by decide +kernel)) (fun _ h9 => h9) haH_6 dX11_can_6 ?_
    have hPc : va_P (dC, dI) vwCl (ws_c_all cB cI cJ cZ cQ aSh fsaSh) H := hP.sub [2] rfl
    have hDc := hD.sub (ws' := (ws_c_all cB cI cJ cZ cQ aSh fsaSh)) [2] (by decide) rfl
    have hFc := va_free (wc := (ws_c_all cB cI cJ cZ cQ aSh fsaSh)) hD hS hA [2] rfl
    refine va_calli (va_runV (As := []) (rest := [.int iSe]) ⟨hx, hb, hml, hown, hts⟩ (c_all l dC dI cB cI cJ cZ cQ aSh fsaSh H.size hlaSh haSh_6) (cwV 0 hts g_h_can_c_all_174 rfl rfl rfl (by decide +kernel) ⟨Nat.le_of_ble_eq_true rfl, Nat.le_of_ble_eq_true rfl⟩) ⟨zFB, va_recv hK hP (ci := 7) (q0 := 2) rfl rfl, fun U hU hW => zUp hU hW hPc hK hO hDc⟩ rfl rfl hl.1 rfl (lv_room (Nat.le_of_ble_eq_true rfl)) dX11_can_9 ⟨Nat.le_of_ble_eq_true rfl, Nat.le_of_ble_eq_true rfl⟩) hS (fun q _ h => hFc q h) hFc (fun r2 u t H1 locs ht hvm hw3 hB hz1 hk1 hS => ?_)
    obtain ⟨gs4, hgl5, hgf6, hP1, hD1⟩ := hB
    rw [ht] at hP1
    obtain ⟨hP, hD⟩ := va_join (wr := [(aH, .inr (11, fsaH)), (aF, .inr (0, fsaF)), (aK, .inr (1, fsaK)), (aRa, .inr (4, fsaRa)), (qId, .inl (cJ, 16, .inr (.inl fId))), (qA, .inl (cQ, 9, .inr (.inr (.inr (.inr fQ))))), (q8, .inl (cI, 6, .inl f8)), (qFr, .inl (cI, 20, .inl fFr)), (aPl, .inr (3, fsaPl))]) (w1 := [(aSh, .inr (7, gs4))]) hP hD [2] [0, 1, 3, 4, 5, 6, 7, 8, 9] rfl rfl (by decide) (by decide) hk1 hFc hP1 hD1
    generalize H1 = H at hP hS ⊢
    have hP : va_P (dC, dI) vwCl [(aH, .inr (11, fsaH)), (aF, .inr (0, fsaF)), (aK, .inr (1, fsaK)), (aRa, .inr (4, fsaRa)), (qId, .inl (cJ, 16, .inr (.inl fId))), (qA, .inl (cQ, 9, .inr (.inr (.inr (.inr fQ))))), (q8, .inl (cI, 6, .inl f8)), (qFr, .inl (cI, 20, .inl fFr)), (aPl, .inr (3, fsaPl)), (aSh, .inr (7, gs4))] H := hP
    have hD : va_D A [(aH, .inr (11, fsaH)), (aF, .inr (0, fsaF)), (aK, .inr (1, fsaK)), (aRa, .inr (4, fsaRa)), (qId, .inl (cJ, 16, .inr (.inl fId))), (qA, .inl (cQ, 9, .inr (.inr (.inr (.inr fQ))))), (q8, .inl (cI, 6, .inl f8)), (qFr, .inl (cI, 20, .inl fFr)), (aPl, .inr (3, fsaPl)), (aSh, .inr (7, gs4))] := hD
    obtain rfl : r2 = 0 := hw3
    refine lv_icmp_gt (tgt := 26) hx hb dX11_can_12 (by decide) (fun c7 => ?_) (fun c7 => ?_)
    · skip
      refine lv_iconst (v := (-1)) hx hb dX11_can_26 (by decide) ?_
      exact W.iret (v := (-1)) hx hb hr (fun t ht hW => ⟨⟨(-1), (), rfl, (by first | rfl | decide | (unfold sp_can; split <;> rename_i zh <;> first | rfl | (exfalso; simp only [Int32.lt_iff_toInt_lt, Int32.le_iff_toInt_le, ← Int32.toInt_inj, zi_m1, zi_0, zi_1, zi_6, zi_8, zi_M, zi_16, zi_20, zi_23, zi_24, zi_27, zi_29, zi_30, zi_40, zi_500, zi_700, zi_1000, true_and, and_true] at zh c1 c7 <;> omega))), trivial⟩, hS.F ht⟩) hS.2.2 dX11_can_27
    · skip
      have ziSe : iSe = 0 := z_inj (by simp only [Int32.lt_iff_toInt_lt, Int32.le_iff_toInt_le, ← Int32.toInt_inj, zi_m1, zi_0, zi_1, zi_6, zi_8, zi_M, zi_16, zi_20, zi_23, zi_24, zi_27, zi_29, zi_30, zi_40, zi_500, zi_700, zi_1000] at c1 c7 ⊢<;> omega)
      subst ziSe
      refine lv_aload_n hx hb dX11_can_15 rfl (lv_at hl 0 rfl) ?_
      refine va_get (D := (dC, dI)) (ci := 11) (v := .ref aF) (C := RX11) (T := TX11) (N := 13) hx hb hts in_h_can_11 hown hK hP 0 rfl rfl 5 (by decide) (hts (.fieldLink RX11 49 "LanternHouse" "facts" "LLanternHouse$Facts;") (by decide +kernel)) (fun _ h9 => h9) haH_5 dX11_can_16 ?_
      refine lv_iload_n hx hb dX11_can_19 rfl (lv_at hl 2 rfl) ?_
      have hPc : va_P (dC, dI) vwCl (ws_c_isKnown cB cI cJ cZ cQ aF iN fsaF) H := hP.sub [1] rfl
      have hDc := hD.sub (ws' := (ws_c_isKnown cB cI cJ cZ cQ aF iN fsaF)) [1] (by decide) rfl
      have hFc := va_free (wc := (ws_c_isKnown cB cI cJ cZ cQ aF iN fsaF)) hD hS hA [1] rfl
      refine va_calli (va_runV (As := [.int iN]) (rest := []) ⟨hx, hb, hml, hown, hts⟩ (c_isKnown l dC dI cB cI cJ cZ cQ aF iN fsaF H.size hlaF haF_4) (cwV 1 hts g_h_can_c_isKnown_160 rfl rfl rfl (by decide +kernel) ⟨Nat.le_of_ble_eq_true rfl, Nat.le_of_ble_eq_true rfl⟩) ⟨zFB, va_recv hK hP (ci := 0) (q0 := 1) rfl rfl, fun U hU hW => zUp hU hW hPc hK hO hDc⟩ rfl rfl hl.1 rfl (lv_room (Nat.le_of_ble_eq_true rfl)) dX11_can_20 ⟨Nat.le_of_ble_eq_true rfl, Nat.le_of_ble_eq_true rfl⟩) hS (fun q _ h => hFc q h) hFc (fun r8 u t H1 locs ht hvm hw9 hB hz1 hk1 hS => ?_)
      obtain ⟨gs10, hgl11, hgf12, hP1, hD1⟩ := hB
      rw [ht] at hP1
      obtain ⟨hP, hD⟩ := va_join (wr := [(aH, .inr (11, fsaH)), (aK, .inr (1, fsaK)), (aRa, .inr (4, fsaRa)), (qId, .inl (cJ, 16, .inr (.inl fId))), (qA, .inl (cQ, 9, .inr (.inr (.inr (.inr fQ))))), (q8, .inl (cI, 6, .inl f8)), (qFr, .inl (cI, 20, .inl fFr)), (aPl, .inr (3, fsaPl)), (aSh, .inr (7, gs4))]) (w1 := [(aF, .inr (0, gs10))]) hP hD [1] [0, 2, 3, 4, 5, 6, 7, 8, 9] rfl rfl (by decide) (by decide) hk1 hFc hP1 hD1
      generalize H1 = H at hP hS ⊢
      have hP : va_P (dC, dI) vwCl [(aH, .inr (11, fsaH)), (aK, .inr (1, fsaK)), (aRa, .inr (4, fsaRa)), (qId, .inl (cJ, 16, .inr (.inl fId))), (qA, .inl (cQ, 9, .inr (.inr (.inr (.inr fQ))))), (q8, .inl (cI, 6, .inl f8)), (qFr, .inl (cI, 20, .inl fFr)), (aPl, .inr (3, fsaPl)), (aSh, .inr (7, gs4)), (aF, .inr (0, gs10))] H := hP
      have hD : va_D A [(aH, .inr (11, fsaH)), (aK, .inr (1, fsaK)), (aRa, .inr (4, fsaRa)), (qId, .inl (cJ, 16, .inr (.inl fId))), (qA, .inl (cQ, 9, .inr (.inr (.inr (.inr fQ))))), (q8, .inl (cI, 6, .inl f8)), (qFr, .inl (cI, 20, .inl fFr)), (aPl, .inr (3, fsaPl)), (aSh, .inr (7, gs4)), (aF, .inr (0, gs10))] := hD
      rcases hw9 with ⟨rfl, c13⟩ | ⟨rfl, c14⟩
      · skip
        have ziN : iN = 0 := z_inj (by simp only [Int32.lt_iff_toInt_lt, Int32.le_iff_toInt_le, ← Int32.toInt_inj, zi_m1, zi_0, zi_1, zi_6, zi_8, zi_M, zi_16, zi_20, zi_23, zi_24, zi_27, zi_29, zi_30, zi_40, zi_500, zi_700, zi_1000] at c1 c7 c13 ⊢<;> omega)
        subst ziN
        refine lv_if_ne (tgt := 28) hx hb dX11_can_23 (by decide) (fun _ => ?_) (fun zc => absurd zc (by decide))
        refine lv_aload_n hx hb dX11_can_28 rfl (lv_at hl 0 rfl) ?_
        refine va_get (D := (dC, dI)) (ci := 11) (v := .ref aK) (C := RX11) (T := TX11) (N := 13) hx hb hts in_h_can_11 hown hK hP 0 rfl rfl 7 (by decide) (hts (.fieldLink RX11 70 "LanternHouse" "keeper" "LLanternHouse$Keeper;") (by decide +kernel)) (fun _ h9 => h9) haH_7 dX11_can_29 ?_
        refine lv_iload_n hx hb dX11_can_32 rfl (lv_at hl 2 rfl) ?_
        have hPc : va_P (dC, dI) vwCl (ws_c_prepare cB cI cJ cZ cQ aK aRa qId qA q8 aSh aF fId fQ f8 fsaK fsaRa gs4) H := hP.sub [1, 2, 3, 4, 5, 8] rfl
        have hDc := hD.sub (ws' := (ws_c_prepare cB cI cJ cZ cQ aK aRa qId qA q8 aSh aF fId fQ f8 fsaK fsaRa gs4)) [1, 2, 3, 4, 5, 8] (by decide) rfl
        have hFc := va_free (wc := (ws_c_prepare cB cI cJ cZ cQ aK aRa qId qA q8 aSh aF fId fQ f8 fsaK fsaRa gs4)) hD hS hA [1, 2, 3, 4, 5, 8] rfl
        refine va_callv (va_runV (As := [.int 0]) (rest := []) ⟨hx, hb, hml, hown, hts⟩ (c_prepare l dC dI cB cI cJ cZ cQ aK aRa qId qA q8 aSh aF fId fQ f8 fsaK fsaRa gs4 H.size hQ8 hlaK haK_0 haK_2 haK_3 haK_4 hlaRa haRa_4 haRa_7 hgl5 ((hgf6 6 (by decide)).trans haSh_6)) (cwV 1 hts g_h_can_c_prepare_177 rfl rfl rfl (by decide +kernel) ⟨Nat.le_of_ble_eq_true rfl, Nat.le_of_ble_eq_true rfl⟩) ⟨zFB, va_recv hK hP (ci := 1) (q0 := 1) rfl rfl, fun U hU hW => zUp hU hW hPc hK hO hDc⟩ rfl rfl hl.1 rfl (lv_room (Nat.le_of_ble_eq_true rfl)) dX11_can_33 ⟨Nat.le_of_ble_eq_true rfl, Nat.le_of_ble_eq_true rfl⟩) hS (fun q _ h => hFc q h) hFc (fun u t H1 locs ht hvm hw16 hB hz1 hk1 hS => ?_)
        obtain ⟨gs17, gs18, hgl19, hgf20, hgl21, hgf22, hP1, hD1⟩ := hB
        rw [ht] at hP1
        obtain ⟨hP, hD⟩ := va_join (wr := [(aH, .inr (11, fsaH)), (qFr, .inl (cI, 20, .inl fFr)), (aPl, .inr (3, fsaPl)), (aF, .inr (0, gs10))]) (w1 := [(aK, .inr (1, gs17)), (aSh, .inr (7, gs18))]) hP hD [1, 2, 3, 4, 5, 8] [0, 6, 7, 9] rfl rfl (by decide) (by decide) hk1 hFc hP1 hD1
        generalize H1 = H at hP hS ⊢
        have hP : va_P (dC, dI) vwCl [(aH, .inr (11, fsaH)), (qFr, .inl (cI, 20, .inl fFr)), (aPl, .inr (3, fsaPl)), (aF, .inr (0, gs10)), (aK, .inr (1, gs17)), (aSh, .inr (7, gs18))] H := hP
        have hD : va_D A [(aH, .inr (11, fsaH)), (qFr, .inl (cI, 20, .inl fFr)), (aPl, .inr (3, fsaPl)), (aF, .inr (0, gs10)), (aK, .inr (1, gs17)), (aSh, .inr (7, gs18))] := hD
        refine lv_aload_n hx hb dX11_can_36 rfl (lv_at hl 0 rfl) ?_
        refine va_get (D := (dC, dI)) (ci := 11) (v := .ref aK) (C := RX11) (T := TX11) (N := 13) hx hb hts in_h_can_11 hown hK hP 0 rfl rfl 7 (by decide) (hts (.fieldLink RX11 70 "LanternHouse" "keeper" "LLanternHouse$Keeper;") (by decide +kernel)) (fun _ h9 => h9) haH_7 dX11_can_37 ?_
        refine lv_iload_n hx hb dX11_can_40 rfl (lv_at hl 1 rfl) ?_
        refine lv_aload_n hx hb dX11_can_41 rfl (lv_at hl 0 rfl) ?_
        refine va_get (D := (dC, dI)) (ci := 11) (v := .ref aPl) (C := RX11) (T := TX11) (N := 13) hx hb hts in_h_can_11 hown hK hP 0 rfl rfl 11 (by decide) (hts (.fieldLink RX11 92 "LanternHouse" "trial" "LLanternHouse$Plan;") (by decide +kernel)) (fun _ h9 => h9) haH_11 dX11_can_42 ?_
        have hPc : va_P (dC, dI) vwCl (ws_c_keep cB cI cJ cZ cQ aK aSh qFr aPl fFr gs17 gs18 fsaPl) H := hP.sub [4, 5, 1, 2] rfl
        have hDc := hD.sub (ws' := (ws_c_keep cB cI cJ cZ cQ aK aSh qFr aPl fFr gs17 gs18 fsaPl)) [4, 5, 1, 2] (by decide) rfl
        have hFc := va_free (wc := (ws_c_keep cB cI cJ cZ cQ aK aSh qFr aPl fFr gs17 gs18 fsaPl)) hD hS hA [4, 5, 1, 2] rfl
        refine va_calli (va_runV (As := [.int 0, .ref aPl]) (rest := []) ⟨hx, hb, hml, hown, hts⟩ (c_keep l dC dI cB cI cJ cZ cQ aK aSh qFr aPl fFr gs17 gs18 fsaPl H.size hgl19 ((hgf20 0 (by decide)).trans haK_0) ((hgf20 6 (by decide)).trans haK_6) hgl21 ((hgf22 6 (by decide)).trans ((hgf6 6 (by decide)).trans haSh_6)) hlaPl) (cwV 2 hts g_h_can_c_keep_180 rfl rfl rfl (by decide +kernel) ⟨Nat.le_of_ble_eq_true rfl, Nat.le_of_ble_eq_true rfl⟩) ⟨zFB, va_recv hK hP (ci := 1) (q0 := 4) rfl rfl, fun U hU hW => zUp hU hW hPc hK hO hDc⟩ rfl rfl hl.1 rfl (lv_room (Nat.le_of_ble_eq_true rfl)) dX11_can_45 ⟨Nat.le_of_ble_eq_true rfl, Nat.le_of_ble_eq_true rfl⟩) hS (fun q _ h => hFc q h) hFc (fun r23 u t H1 locs ht hvm hw24 hB hz1 hk1 hS => ?_)
        obtain ⟨gs25, gs26, hgl27, hgf28, hgl29, hgf30, hgk31, hgk32, hgk33, hgk34, hgk35, hP1, hD1⟩ := hB
        rw [ht] at hP1
        obtain ⟨hP, hD⟩ := va_join (wr := [(aH, .inr (11, fsaH)), (aF, .inr (0, gs10))]) (w1 := [(aSh, .inr (7, gs25)), (aPl, .inr (3, gs26))]) hP hD [4, 5, 1, 2] [0, 3] rfl rfl (by decide) (by decide) hk1 hFc hP1 hD1
        generalize H1 = H at hP hS ⊢
        have hP : va_P (dC, dI) vwCl [(aH, .inr (11, fsaH)), (aF, .inr (0, gs10)), (aSh, .inr (7, gs25)), (aPl, .inr (3, gs26))] H := hP
        have hD : va_D A [(aH, .inr (11, fsaH)), (aF, .inr (0, gs10)), (aSh, .inr (7, gs25)), (aPl, .inr (3, gs26))] := hD
        obtain rfl : r23 = 1 := hw24
        refine lv_if_eq (tgt := 61) hx hb dX11_can_48 (by decide) (fun zc => absurd zc (by decide)) (fun _ => ?_)
        refine lv_aload_n hx hb dX11_can_51 rfl (lv_at hl 0 rfl) ?_
        refine va_get (D := (dC, dI)) (ci := 11) (v := .ref aPl) (C := RX11) (T := TX11) (N := 13) hx hb hts in_h_can_11 hown hK hP 0 rfl rfl 11 (by decide) (hts (.fieldLink RX11 92 "LanternHouse" "trial" "LLanternHouse$Plan;") (by decide +kernel)) (fun _ h9 => h9) haH_11 dX11_can_52 ?_
        refine va_get (D := (dC, dI)) (ci := 3) (v := .int 0) (C := RX3) (T := TX3) (N := 8) hx hb hts in_h_can_3 hown hK hP 3 rfl rfl 4 (by decide) (hts (.fieldLink RX11 184 "LanternHouse$Plan" "worth" "I") (by decide +kernel)) (fun _ h9 => h9) hgk32 dX11_can_55 ?_
        refine lv_goto (tgt := 63) hx hb dX11_can_58 (by decide) ?_
        exact W.iret (v := 0) hx hb hr (fun t ht hW => ⟨⟨0, (), rfl, (by first | rfl | decide | (unfold sp_can; split <;> rename_i zh <;> first | rfl | (exfalso; simp only [Int32.lt_iff_toInt_lt, Int32.le_iff_toInt_le, ← Int32.toInt_inj, zi_m1, zi_0, zi_1, zi_6, zi_8, zi_M, zi_16, zi_20, zi_23, zi_24, zi_27, zi_29, zi_30, zi_40, zi_500, zi_700, zi_1000, true_and, and_true] at zh c1 c7 c13 <;> omega))), trivial⟩, hS.F ht⟩) hS.2.2 dX11_can_63
      · skip
        refine lv_if_ne (tgt := 28) hx hb dX11_can_23 (by decide) (fun zc => absurd zc (by decide)) (fun _ => ?_)
        refine lv_iconst (v := (-1)) hx hb dX11_can_26 (by decide) ?_
        exact W.iret (v := (-1)) hx hb hr (fun t ht hW => ⟨⟨(-1), (), rfl, (by first | rfl | decide | (unfold sp_can; split <;> rename_i zh <;> first | rfl | (exfalso; simp only [Int32.lt_iff_toInt_lt, Int32.le_iff_toInt_le, ← Int32.toInt_inj, zi_m1, zi_0, zi_1, zi_6, zi_8, zi_M, zi_16, zi_20, zi_23, zi_24, zi_27, zi_29, zi_30, zi_40, zi_500, zi_700, zi_1000, true_and, and_true] at zh c1 c7 c14 <;> omega))), trivial⟩, hS.F ht⟩) hS.2.2 dX11_can_27

def zs_h_make : List Cond := .code yX11_make cX11_make 2 (some .int) :: (([.fieldLink RX11 49 "LanternHouse" "facts" "LLanternHouse$Facts;", .fieldLink RX11 95 "LanternHouse" "isMade" "Z", .fieldLink RX11 88 "LanternHouse" "made" "LLanternHouse$Plan;", .fieldLink RX11 184 "LanternHouse$Plan" "worth" "I", .methodLink RX11 160 yX0_isKnown, .instanceMethod yX0_isKnown, .selects RX0 yX0_isKnown yX0_isKnown, .initialized RX0, .methodLink RX11 187 yX11_settle, .instanceMethod yX11_settle, .selects RX11 yX11_settle yX11_settle, .initialized RX11] : List Cond) ++ (zs_c_isKnown ++ (zs_h_settle ++ (wsX110 ++ (wsX30 ++ [])))))
theorem gd_h_make : (zs_h_make).all goodWord = true := by decide +kernel
theorem in_h_make_11 : ∀ w ∈ wsX110, w ∈ zs_h_make := fun w h => List.mem_cons_of_mem _ (List.mem_append_right _ (List.mem_append_right _ (List.mem_append_right _ (List.mem_append_left _ h))))
theorem in_h_make_3 : ∀ w ∈ wsX30, w ∈ zs_h_make := fun w h => List.mem_cons_of_mem _ (List.mem_append_right _ (List.mem_append_right _ (List.mem_append_right _ (List.mem_append_right _ (List.mem_append_left _ h)))))
theorem g_h_make_c_isKnown_160 : GoodIn zs_h_make (wsV RX11 160 RX0 yX0_isKnown zs_c_isKnown) := goodIn_app (goodIn_of _ (by decide +kernel)) (goodIn_sub (fun w h => List.mem_cons_of_mem _ (List.mem_append_right _ (List.mem_append_left _ h))) gd_c_isKnown)
theorem g_h_make_h_settle_187 : GoodIn zs_h_make (wsV RX11 187 RX11 yX11_settle zs_h_settle) := goodIn_app (goodIn_of _ (by decide +kernel)) (goodIn_sub (fun w h => List.mem_cons_of_mem _ (List.mem_append_right _ (List.mem_append_right _ (List.mem_append_left _ h)))) gd_h_settle)
abbrev ws_h_make (cB cI cJ cZ cQ : ClassId) (aH aF aSh aK aRa qId qA q8 qFr aPl : Nat) (iN : Int32) (fId : Nat → Int64) (fQ : Nat → Option Nat) (f8 : Nat → Int32) (fFr : Nat → Int32) (fsaH : List Value) (fsaF : List Value) (fsaSh : List Value) (fsaK : List Value) (fsaRa : List Value) (fsaPl : List Value) : va_W := [(aH, .inr (11, fsaH)), (aF, .inr (0, fsaF)), (aSh, .inr (7, fsaSh)), (aK, .inr (1, fsaK)), (aRa, .inr (4, fsaRa)), (qId, .inl (cJ, 16, .inr (.inl fId))), (qA, .inl (cQ, 9, .inr (.inr (.inr (.inr fQ))))), (q8, .inl (cI, 6, .inl f8)), (qFr, .inl (cI, 20, .inl fFr)), (aPl, .inr (3, fsaPl))]
set_option maxHeartbeats 4000000 in
set_option maxRecDepth 100000 in
theorem h_make (l : Launch) (dC : Nat → ClassId) (dI : Nat → Nat → Nat) (cB cI cJ cZ cQ : ClassId) (aH aF aSh aK aRa qId qA q8 qFr aPl : Nat) (iN : Int32) (fId : Nat → Int64) (fQ : Nat → Option Nat) (f8 : Nat → Int32) (fFr : Nat → Int32) (fsaH : List Value) (fsaF : List Value) (fsaSh : List Value) (fsaK : List Value) (fsaRa : List Value) (fsaPl : List Value) (sz : Nat) (hQ8 : fQ (8 : Int32).toNatClampNeg = (some q8)) (hlaH : fsaH.length = 13) (haH_5 : fsaH[5]? = some (.ref aF)) (haH_6 : fsaH[6]? = some (.ref aSh)) (haH_7 : fsaH[7]? = some (.ref aK)) (haH_10 : fsaH[10]? = some (.ref aPl)) (hlaF : fsaF.length = 5) (haF_4 : fsaF[4]? = some (.int 0)) (hlaSh : fsaSh.length = 8) (haSh_6 : fsaSh[6]? = some (.int 0)) (hlaK : fsaK.length = 8) (haK_0 : fsaK[0]? = some (.ref aSh)) (haK_2 : fsaK[2]? = some (.ref aF)) (haK_3 : fsaK[3]? = some (.ref aRa)) (haK_4 : fsaK[4]? = some (.ref qA)) (haK_6 : fsaK[6]? = some (.ref qFr)) (hlaRa : fsaRa.length = 8) (haRa_4 : fsaRa[4]? = some (.ref qId)) (haRa_7 : fsaRa[7]? = some (.int 0)) (hlaPl : fsaPl.length = 8) : Met l yX11_make zs_h_make ({ frames := 4, cells := 0, slots := 0, locals := 99 } : Room) (zPc [.ref aH, .int iN] (dC, dI) (zTY cB cI cJ cZ cQ) (ws_h_make cB cI cJ cZ cQ aH aF aSh aK aRa qId qA q8 qFr aPl iN fId fQ f8 fFr fsaH fsaF fsaSh fsaK fsaRa fsaPl) sz) (va_Qi (fun (zr : Int32) (_ : Unit) => zr = sp_back iN) (fun (_ : Unit) (_ : State) => True) (va_A (ws_h_make cB cI cJ cZ cQ aH aF aSh aK aRa qId qA q8 qFr aPl iN fId fQ f8 fFr fsaH fsaF fsaSh fsaK fsaRa fsaPl) sz)) 0 0 (va_A (ws_h_make cB cI cJ cZ cQ aH aF aSh aK aRa qId qA q8 qFr aPl iN fId fQ f8 fFr fsaH fsaF fsaSh fsaK fsaRa fsaPl) sz) := by
  refine Met.ofW (cc := cX11_make) (maxL := 2) (ret := (some .int)) (by decide) rfl ?_
  intro p e s m args below meth c s₁ B hml hv
  obtain ⟨rfl, hsz, hP0, hK, hO, hD0⟩ := hv
  have hx := B.exec
  have hb := B.bytes
  have hr := B.returns
  have hts := atoms_spec (ws := zs_h_make) B.pre
  have hown : s.vm.findClass RX11 = some m.cls := findClass_of_methodNamed B.named
  have hlocks := B.notSynchronized
  subst hsz
  have hD8 := hD0.self (sz := s.heap.size)
  generalize hAe : va_A (ws_h_make cB cI cJ cZ cQ aH aF aSh aK aRa qId qA q8 qFr aPl iN fId fQ f8 fFr fsaH fsaF fsaSh fsaK fsaRa fsaPl) s.heap.size = A at hD8 ⊢
  have hA : ∀ q : Nat, s.heap.size ≤ q → A q := fun q h => by rw [← hAe]; exact Or.inr h
  have hS : va_S A s.heap s.heap [] := va_S.rf
  have hP : va_P (dC, dI) vwCl [(aH, .inr (11, fsaH)), (aF, .inr (0, fsaF)), (aSh, .inr (7, fsaSh)), (aK, .inr (1, fsaK)), (aRa, .inr (4, fsaRa)), (qId, .inl (cJ, 16, .inr (.inl fId))), (qA, .inl (cQ, 9, .inr (.inr (.inr (.inr fQ))))), (q8, .inl (cI, 6, .inl f8)), (qFr, .inl (cI, 20, .inl fFr)), (aPl, .inr (3, fsaPl))] s.heap := hP0
  have hD : va_D A [(aH, .inr (11, fsaH)), (aF, .inr (0, fsaF)), (aSh, .inr (7, fsaSh)), (aK, .inr (1, fsaK)), (aRa, .inr (4, fsaRa)), (qId, .inl (cJ, 16, .inr (.inl fId))), (qA, .inl (cQ, 9, .inr (.inr (.inr (.inr fQ))))), (q8, .inl (cI, 6, .inl f8)), (qFr, .inl (cI, 20, .inl fFr)), (aPl, .inr (3, fsaPl))] := hD8
  have hl := lv_entry ([.ref aH, .int iN]) (n := 2) (Nat.le_of_ble_eq_true rfl)
  rw [lg_entry_eq]
  generalize (lg_sl ([.ref aH, .int iN]) ++ List.replicate (2 - (lg_sl ([.ref aH, .int iN])).length) Slot.unset).toArray = ls at hl ⊢
  have hl : lv_has ls 2 [(0, .ref aH), (1, .int iN)] := hl
  clear hP0 hD8 hD0
  refine zH0 (fun H hP hS => ?_) hP hS
  refine lv_aload_n hx hb dX11_make_0 rfl (lv_at hl 0 rfl) ?_
  refine va_get (D := (dC, dI)) (ci := 11) (v := .ref aF) (C := RX11) (T := TX11) (N := 13) hx hb hts in_h_make_11 hown hK hP 0 rfl rfl 5 (by decide) (hts (.fieldLink RX11 49 "LanternHouse" "facts" "LLanternHouse$Facts;") (by decide +kernel)) (fun _ h9 => h9) haH_5 dX11_make_1 ?_
  refine lv_iload_n hx hb dX11_make_4 rfl (lv_at hl 1 rfl) ?_
  have hPc : va_P (dC, dI) vwCl (ws_c_isKnown cB cI cJ cZ cQ aF iN fsaF) H := hP.sub [1] rfl
  have hDc := hD.sub (ws' := (ws_c_isKnown cB cI cJ cZ cQ aF iN fsaF)) [1] (by decide) rfl
  have hFc := va_free (wc := (ws_c_isKnown cB cI cJ cZ cQ aF iN fsaF)) hD hS hA [1] rfl
  refine va_calli (va_runV (As := [.int iN]) (rest := []) ⟨hx, hb, hml, hown, hts⟩ (c_isKnown l dC dI cB cI cJ cZ cQ aF iN fsaF H.size hlaF haF_4) (cwV 1 hts g_h_make_c_isKnown_160 rfl rfl rfl (by decide +kernel) ⟨Nat.le_of_ble_eq_true rfl, Nat.le_of_ble_eq_true rfl⟩) ⟨zFB, va_recv hK hP (ci := 0) (q0 := 1) rfl rfl, fun U hU hW => zUp hU hW hPc hK hO hDc⟩ rfl rfl hl.1 rfl (lv_room (Nat.le_of_ble_eq_true rfl)) dX11_make_5 ⟨Nat.le_of_ble_eq_true rfl, Nat.le_of_ble_eq_true rfl⟩) hS (fun q _ h => hFc q h) hFc (fun r1 u t H1 locs ht hvm hw2 hB hz1 hk1 hS => ?_)
  obtain ⟨gs3, hgl4, hgf5, hP1, hD1⟩ := hB
  rw [ht] at hP1
  obtain ⟨hP, hD⟩ := va_join (wr := [(aH, .inr (11, fsaH)), (aSh, .inr (7, fsaSh)), (aK, .inr (1, fsaK)), (aRa, .inr (4, fsaRa)), (qId, .inl (cJ, 16, .inr (.inl fId))), (qA, .inl (cQ, 9, .inr (.inr (.inr (.inr fQ))))), (q8, .inl (cI, 6, .inl f8)), (qFr, .inl (cI, 20, .inl fFr)), (aPl, .inr (3, fsaPl))]) (w1 := [(aF, .inr (0, gs3))]) hP hD [1] [0, 2, 3, 4, 5, 6, 7, 8, 9] rfl rfl (by decide) (by decide) hk1 hFc hP1 hD1
  generalize H1 = H at hP hS ⊢
  have hP : va_P (dC, dI) vwCl [(aH, .inr (11, fsaH)), (aSh, .inr (7, fsaSh)), (aK, .inr (1, fsaK)), (aRa, .inr (4, fsaRa)), (qId, .inl (cJ, 16, .inr (.inl fId))), (qA, .inl (cQ, 9, .inr (.inr (.inr (.inr fQ))))), (q8, .inl (cI, 6, .inl f8)), (qFr, .inl (cI, 20, .inl fFr)), (aPl, .inr (3, fsaPl)), (aF, .inr (0, gs3))] H := hP
  have hD : va_D A [(aH, .inr (11, fsaH)), (aSh, .inr (7, fsaSh)), (aK, .inr (1, fsaK)), (aRa, .inr (4, fsaRa)), (qId, .inl (cJ, 16, .inr (.inl fId))), (qA, .inl (cQ, 9, .inr (.inr (.inr (.inr fQ))))), (q8, .inl (cI, 6, .inl f8)), (qFr, .inl (cI, 20, .inl fFr)), (aPl, .inr (3, fsaPl)), (aF, .inr (0, gs3))] := hD
  rcases hw2 with ⟨rfl, c6⟩ | ⟨rfl, c7⟩
  · skip
    have ziN : iN = 0 := z_inj (by simp only [Int32.lt_iff_toInt_lt, Int32.le_iff_toInt_le, ← Int32.toInt_inj, zi_m1, zi_0, zi_1, zi_6, zi_8, zi_M, zi_16, zi_20, zi_23, zi_24, zi_27, zi_29, zi_30, zi_40, zi_500, zi_700, zi_1000] at c6 ⊢<;> omega)
    subst ziN
    refine lv_if_ne (tgt := 13) hx hb dX11_make_8 (by decide) (fun _ => ?_) (fun zc => absurd zc (by decide))
    refine lv_aload_n hx hb dX11_make_13 rfl (lv_at hl 0 rfl) ?_
    refine lv_iload_n hx hb dX11_make_14 rfl (lv_at hl 1 rfl) ?_
    refine lv_iconst (v := (-1)) hx hb dX11_make_15 (by decide) ?_
    have hPc : va_P (dC, dI) vwCl (ws_h_settle cB cI cJ cZ cQ aH aSh aK aRa qId qA q8 qFr aPl aF fId fQ f8 fFr fsaH fsaSh fsaK fsaRa fsaPl) H := hP.sub [0, 1, 2, 3, 4, 5, 6, 7, 8] rfl
    have hDc := hD.sub (ws' := (ws_h_settle cB cI cJ cZ cQ aH aSh aK aRa qId qA q8 qFr aPl aF fId fQ f8 fFr fsaH fsaSh fsaK fsaRa fsaPl)) [0, 1, 2, 3, 4, 5, 6, 7, 8] (by decide) rfl
    have hFc := va_free (wc := (ws_h_settle cB cI cJ cZ cQ aH aSh aK aRa qId qA q8 qFr aPl aF fId fQ f8 fFr fsaH fsaSh fsaK fsaRa fsaPl)) hD hS hA [0, 1, 2, 3, 4, 5, 6, 7, 8] rfl
    refine va_callv (va_runV (As := [.int 0, .int (-1)]) (rest := []) ⟨hx, hb, hml, hown, hts⟩ (h_settle l dC dI cB cI cJ cZ cQ aH aSh aK aRa qId qA q8 qFr aPl aF fId fQ f8 fFr fsaH fsaSh fsaK fsaRa fsaPl H.size hQ8 hlaH haH_6 haH_7 haH_10 hlaSh haSh_6 hlaK haK_0 haK_2 haK_3 haK_4 haK_6 hlaRa haRa_4 haRa_7 hlaPl) (cwV 2 hts g_h_make_h_settle_187 rfl rfl rfl (by decide +kernel) ⟨Nat.le_of_ble_eq_true rfl, Nat.le_of_ble_eq_true rfl⟩) ⟨zFB, va_recv hK hP (ci := 11) (q0 := 0) rfl rfl, fun U hU hW => zUp hU hW hPc hK hO hDc⟩ rfl rfl hl.1 rfl (lv_room (Nat.le_of_ble_eq_true rfl)) dX11_make_16 ⟨Nat.le_of_ble_eq_true rfl, Nat.le_of_ble_eq_true rfl⟩) hS (fun q _ h => hFc q h) hFc (fun u t H1 locs ht hvm hw9 hB hz1 hk1 hS => ?_)
    obtain ⟨gs10, gs11, hgl12, hgf13, hgl14, hgf15, hgk16, hP1, hD1⟩ := hB
    rw [ht] at hP1
    obtain ⟨hP, hD⟩ := va_join (wr := [(aF, .inr (0, gs3))]) (w1 := [(aH, .inr (11, gs10)), (aPl, .inr (3, gs11))]) hP hD [0, 1, 2, 3, 4, 5, 6, 7, 8] [9] rfl rfl (by decide) (by decide) hk1 hFc hP1 hD1
    generalize H1 = H at hP hS ⊢
    have hP : va_P (dC, dI) vwCl [(aF, .inr (0, gs3)), (aH, .inr (11, gs10)), (aPl, .inr (3, gs11))] H := hP
    have hD : va_D A [(aF, .inr (0, gs3)), (aH, .inr (11, gs10)), (aPl, .inr (3, gs11))] := hD
    refine lv_aload_n hx hb dX11_make_19 rfl (lv_at hl 0 rfl) ?_
    refine lv_iconst (v := 1) hx hb dX11_make_20 (by decide) ?_
    refine va_put (D := (dC, dI)) (ci := 11) (v := .int 1) (ty := .boolean) (C := RX11) (T := TX11) (N := 13) hx hb hts in_h_make_11 tyX11 tyX11_ok nmX11 hown hK hP hD hS 1 rfl rfl 12 (by decide) (hts (.fieldLink RX11 95 "LanternHouse" "isMade" "Z") (by decide +kernel)) (fun _ h9 => h9) rfl (by decide +kernel) rfl rfl (by rw [hgl12]; decide) dX11_make_21 (fun H locs hP hD hS => ?_)
    have hP : va_P (dC, dI) vwCl [(aF, .inr (0, gs3)), (aH, .inr (11, (List.set gs10 12 (.int 1)))), (aPl, .inr (3, gs11))] H := hP
    have hD : va_D A [(aF, .inr (0, gs3)), (aH, .inr (11, (List.set gs10 12 (.int 1)))), (aPl, .inr (3, gs11))] := hD
    refine lv_aload_n hx hb dX11_make_24 rfl (lv_at hl 0 rfl) ?_
    refine va_get (D := (dC, dI)) (ci := 11) (v := .ref aPl) (C := RX11) (T := TX11) (N := 13) hx hb hts in_h_make_11 hown hK hP 1 rfl rfl 10 (by decide) (hts (.fieldLink RX11 88 "LanternHouse" "made" "LLanternHouse$Plan;") (by decide +kernel)) (fun _ h9 => h9) (zset_ne (by decide) ((hgf13 10 (by decide)).trans haH_10)) dX11_make_25 ?_
    refine va_get (D := (dC, dI)) (ci := 3) (v := .int 0) (C := RX3) (T := TX3) (N := 8) hx hb hts in_h_make_3 hown hK hP 2 rfl rfl 4 (by decide) (hts (.fieldLink RX11 184 "LanternHouse$Plan" "worth" "I") (by decide +kernel)) (fun _ h9 => h9) hgk16 dX11_make_28 ?_
    exact W.iret (v := 0) hx hb hr (fun t ht hW => ⟨⟨0, (), rfl, (by first | rfl | decide | (unfold sp_back; split <;> rename_i zh <;> first | rfl | (exfalso; simp only [Int32.lt_iff_toInt_lt, Int32.le_iff_toInt_le, ← Int32.toInt_inj, zi_m1, zi_0, zi_1, zi_6, zi_8, zi_M, zi_16, zi_20, zi_23, zi_24, zi_27, zi_29, zi_30, zi_40, zi_500, zi_700, zi_1000, true_and, and_true] at zh c6 <;> omega))), trivial⟩, hS.F ht⟩) hS.2.2 dX11_make_31
  · skip
    refine lv_if_ne (tgt := 13) hx hb dX11_make_8 (by decide) (fun zc => absurd zc (by decide)) (fun _ => ?_)
    refine lv_iconst (v := (-1)) hx hb dX11_make_11 (by decide) ?_
    exact W.iret (v := (-1)) hx hb hr (fun t ht hW => ⟨⟨(-1), (), rfl, (by first | rfl | decide | (unfold sp_back; split <;> rename_i zh <;> first | rfl | (exfalso; simp only [Int32.lt_iff_toInt_lt, Int32.le_iff_toInt_le, ← Int32.toInt_inj, zi_m1, zi_0, zi_1, zi_6, zi_8, zi_M, zi_16, zi_20, zi_23, zi_24, zi_27, zi_29, zi_30, zi_40, zi_500, zi_700, zi_1000, true_and, and_true] at zh c7 <;> omega))), trivial⟩, hS.F ht⟩) hS.2.2 dX11_make_12

def zs_h_mend : List Cond := .code yX11_mend cX11_mend 2 (some .int) :: (([.fieldLink RX11 95 "LanternHouse" "isMade" "Z"] : List Cond) ++ (wsX110 ++ []))
theorem gd_h_mend : (zs_h_mend).all goodWord = true := by decide +kernel
theorem in_h_mend_11 : ∀ w ∈ wsX110, w ∈ zs_h_mend := fun w h => List.mem_cons_of_mem _ (List.mem_append_right _ (List.mem_append_left _ h))
abbrev ws_h_mend (cB cI cJ cZ cQ : ClassId) (aH : Nat) (iN : Int32) (fsaH : List Value) : va_W := [(aH, .inr (11, fsaH))]
set_option maxHeartbeats 4000000 in
set_option maxRecDepth 100000 in
theorem h_mend (l : Launch) (dC : Nat → ClassId) (dI : Nat → Nat → Nat) (cB cI cJ cZ cQ : ClassId) (aH : Nat) (iN : Int32) (fsaH : List Value) (sz : Nat) (hlaH : fsaH.length = 13) (haH_12 : fsaH[12]? = some (.int 0)) : Met l yX11_mend zs_h_mend ({ frames := 0, cells := 0, slots := 0, locals := 0 } : Room) (zPc [.ref aH, .int iN] (dC, dI) (zTY cB cI cJ cZ cQ) (ws_h_mend cB cI cJ cZ cQ aH iN fsaH) sz) (va_Qi (fun (zr : Int32) (_ : Unit) => zr = (-1)) (fun (_ : Unit) (_ : State) => True) (va_A (ws_h_mend cB cI cJ cZ cQ aH iN fsaH) sz)) 0 0 (va_A (ws_h_mend cB cI cJ cZ cQ aH iN fsaH) sz) := by
  refine Met.ofW (cc := cX11_mend) (maxL := 2) (ret := (some .int)) (by decide) rfl ?_
  intro p e s m args below meth c s₁ B hml hv
  obtain ⟨rfl, hsz, hP0, hK, hO, hD0⟩ := hv
  have hx := B.exec
  have hb := B.bytes
  have hr := B.returns
  have hts := atoms_spec (ws := zs_h_mend) B.pre
  have hown : s.vm.findClass RX11 = some m.cls := findClass_of_methodNamed B.named
  have hlocks := B.notSynchronized
  subst hsz
  have hD8 := hD0.self (sz := s.heap.size)
  generalize hAe : va_A (ws_h_mend cB cI cJ cZ cQ aH iN fsaH) s.heap.size = A at hD8 ⊢
  have hA : ∀ q : Nat, s.heap.size ≤ q → A q := fun q h => by rw [← hAe]; exact Or.inr h
  have hS : va_S A s.heap s.heap [] := va_S.rf
  have hP : va_P (dC, dI) vwCl [(aH, .inr (11, fsaH))] s.heap := hP0
  have hD : va_D A [(aH, .inr (11, fsaH))] := hD8
  have hl := lv_entry ([.ref aH, .int iN]) (n := 2) (Nat.le_of_ble_eq_true rfl)
  rw [lg_entry_eq]
  generalize (lg_sl ([.ref aH, .int iN]) ++ List.replicate (2 - (lg_sl ([.ref aH, .int iN])).length) Slot.unset).toArray = ls at hl ⊢
  have hl : lv_has ls 2 [(0, .ref aH), (1, .int iN)] := hl
  clear hP0 hD8 hD0
  refine zH0 (fun H hP hS => ?_) hP hS
  refine lv_aload_n hx hb dX11_mend_0 rfl (lv_at hl 0 rfl) ?_
  refine va_get (D := (dC, dI)) (ci := 11) (v := .int 0) (C := RX11) (T := TX11) (N := 13) hx hb hts in_h_mend_11 hown hK hP 0 rfl rfl 12 (by decide) (hts (.fieldLink RX11 95 "LanternHouse" "isMade" "Z") (by decide +kernel)) (fun _ h9 => h9) haH_12 dX11_mend_1 ?_
  refine lv_if_eq (tgt := 18) hx hb dX11_mend_4 (by decide) (fun _ => ?_) (fun zc => absurd zc (by decide))
  refine lv_iconst (v := (-1)) hx hb dX11_mend_18 (by decide) ?_
  exact W.iret (v := (-1)) hx hb hr (fun t ht hW => ⟨⟨(-1), (), rfl, rfl, trivial⟩, hS.F ht⟩) hS.2.2 dX11_mend_19

def zs_h_cue : List Cond := .code yX11_cue cX11_cue 6 (some .int) :: (([.methodLink RX11 216 yX11_isKept, .instanceMethod yX11_isKept, .selects RX11 yX11_isKept yX11_isKept, .initialized RX11] : List Cond) ++ (zs_h_isKept ++ []))
theorem gd_h_cue : (zs_h_cue).all goodWord = true := by decide +kernel
theorem g_h_cue_h_isKept_216 : GoodIn zs_h_cue (wsV RX11 216 RX11 yX11_isKept zs_h_isKept) := goodIn_app (goodIn_of _ (by decide +kernel)) (goodIn_sub (fun w h => List.mem_cons_of_mem _ (List.mem_append_right _ (List.mem_append_left _ h))) gd_h_isKept)
abbrev ws_h_cue (cB cI cJ cZ cQ : ClassId) (aH : Nat) (iX : Int32) (iI : Int32) (iWh : Int32) (fsaH : List Value) : va_W := [(aH, .inr (11, fsaH))]
set_option maxHeartbeats 4000000 in
set_option maxRecDepth 100000 in
theorem h_cue (l : Launch) (dC : Nat → ClassId) (dI : Nat → Nat → Nat) (cB cI cJ cZ cQ : ClassId) (aH : Nat) (iX : Int32) (iI : Int32) (iWh : Int32) (fsaH : List Value) (sz : Nat) (hlaH : fsaH.length = 13) (haH_12 : fsaH[12]? = some (.int 0)) : Met l yX11_cue zs_h_cue ({ frames := 1, cells := 0, slots := 0, locals := 21 } : Room) (zPc [.ref aH, .int iX, .int iI, .int iWh] (dC, dI) (zTY cB cI cJ cZ cQ) (ws_h_cue cB cI cJ cZ cQ aH iX iI iWh fsaH) sz) (va_Qi (fun (zr : Int32) (_ : Unit) => zr = (-1)) (fun (_ : Unit) (_ : State) => True) (va_A (ws_h_cue cB cI cJ cZ cQ aH iX iI iWh fsaH) sz)) 0 0 (va_A (ws_h_cue cB cI cJ cZ cQ aH iX iI iWh fsaH) sz) := by
  refine Met.ofW (cc := cX11_cue) (maxL := 6) (ret := (some .int)) (by decide) rfl ?_
  intro p e s m args below meth c s₁ B hml hv
  obtain ⟨rfl, hsz, hP0, hK, hO, hD0⟩ := hv
  have hx := B.exec
  have hb := B.bytes
  have hr := B.returns
  have hts := atoms_spec (ws := zs_h_cue) B.pre
  have hown : s.vm.findClass RX11 = some m.cls := findClass_of_methodNamed B.named
  have hlocks := B.notSynchronized
  subst hsz
  have hD8 := hD0.self (sz := s.heap.size)
  generalize hAe : va_A (ws_h_cue cB cI cJ cZ cQ aH iX iI iWh fsaH) s.heap.size = A at hD8 ⊢
  have hA : ∀ q : Nat, s.heap.size ≤ q → A q := fun q h => by rw [← hAe]; exact Or.inr h
  have hS : va_S A s.heap s.heap [] := va_S.rf
  have hP : va_P (dC, dI) vwCl [(aH, .inr (11, fsaH))] s.heap := hP0
  have hD : va_D A [(aH, .inr (11, fsaH))] := hD8
  have hl := lv_entry ([.ref aH, .int iX, .int iI, .int iWh]) (n := 6) (Nat.le_of_ble_eq_true rfl)
  rw [lg_entry_eq]
  generalize (lg_sl ([.ref aH, .int iX, .int iI, .int iWh]) ++ List.replicate (6 - (lg_sl ([.ref aH, .int iX, .int iI, .int iWh])).length) Slot.unset).toArray = ls at hl ⊢
  have hl : lv_has ls 6 [(0, .ref aH), (1, .int iX), (2, .int iI), (3, .int iWh)] := hl
  clear hP0 hD8 hD0
  refine zH0 (fun H hP hS => ?_) hP hS
  refine lv_aload_n hx hb dX11_cue_0 rfl (lv_at hl 0 rfl) ?_
  refine lv_iload_n hx hb dX11_cue_1 rfl (lv_at hl 1 rfl) ?_
  have hPc : va_P (dC, dI) vwCl (ws_h_isKept cB cI cJ cZ cQ aH iX fsaH) H := hP.sub [0] rfl
  have hDc := hD.sub (ws' := (ws_h_isKept cB cI cJ cZ cQ aH iX fsaH)) [0] (by decide) rfl
  have hFc := va_free (wc := (ws_h_isKept cB cI cJ cZ cQ aH iX fsaH)) hD hS hA [0] rfl
  refine va_calli (va_runV (As := [.int iX]) (rest := []) ⟨hx, hb, hml, hown, hts⟩ (h_isKept l dC dI cB cI cJ cZ cQ aH iX fsaH H.size hlaH haH_12) (cwV 1 hts g_h_cue_h_isKept_216 rfl rfl rfl (by decide +kernel) ⟨Nat.le_of_ble_eq_true rfl, Nat.le_of_ble_eq_true rfl⟩) ⟨zFB, va_recv hK hP (ci := 11) (q0 := 0) rfl rfl, fun U hU hW => zUp hU hW hPc hK hO hDc⟩ rfl rfl hl.1 rfl (lv_room (Nat.le_of_ble_eq_true rfl)) dX11_cue_2 ⟨Nat.le_of_ble_eq_true rfl, Nat.le_of_ble_eq_true rfl⟩) hS (fun q _ h => hFc q h) hFc (fun r1 u t H1 locs ht hvm hw2 hB hz1 hk1 hS => ?_)
  have hP1 : va_P (dC, dI) vwCl [] H1 := zNilP
  have hD1 : va_D (va_A (ws_h_isKept cB cI cJ cZ cQ aH iX fsaH) H.size) [] := zNilD
  obtain ⟨hP, hD⟩ := va_join (wr := []) (w1 := []) hP hD [0] [] rfl rfl (by decide) (by decide) hk1 hFc hP1 hD1
  generalize H1 = H at hP hS ⊢
  have hP : va_P (dC, dI) vwCl [] H := hP
  have hD : va_D A [] := hD
  obtain rfl : r1 = 0 := hw2
  refine lv_if_eq (tgt := 24) hx hb dX11_cue_5 (by decide) (fun _ => ?_) (fun zc => absurd zc (by decide))
  refine lv_iconst (v := (-1)) hx hb dX11_cue_24 (by decide) ?_
  exact W.iret (v := (-1)) hx hb hr (fun t ht hW => ⟨⟨(-1), (), rfl, rfl, trivial⟩, hS.F ht⟩) hS.2.2 dX11_cue_25

def zs_h_showing : List Cond := .code yX11_showing cX11_showing 3 (some .int) :: (([.methodLink RX11 216 yX11_isKept, .instanceMethod yX11_isKept, .selects RX11 yX11_isKept yX11_isKept, .initialized RX11] : List Cond) ++ (zs_h_isKept ++ []))
theorem gd_h_showing : (zs_h_showing).all goodWord = true := by decide +kernel
theorem g_h_showing_h_isKept_216 : GoodIn zs_h_showing (wsV RX11 216 RX11 yX11_isKept zs_h_isKept) := goodIn_app (goodIn_of _ (by decide +kernel)) (goodIn_sub (fun w h => List.mem_cons_of_mem _ (List.mem_append_right _ (List.mem_append_left _ h))) gd_h_isKept)
abbrev ws_h_showing (cB cI cJ cZ cQ : ClassId) (aH : Nat) (iX : Int32) (iWh : Int32) (fsaH : List Value) : va_W := [(aH, .inr (11, fsaH))]
set_option maxHeartbeats 4000000 in
set_option maxRecDepth 100000 in
theorem h_showing (l : Launch) (dC : Nat → ClassId) (dI : Nat → Nat → Nat) (cB cI cJ cZ cQ : ClassId) (aH : Nat) (iX : Int32) (iWh : Int32) (fsaH : List Value) (sz : Nat) (hlaH : fsaH.length = 13) (haH_12 : fsaH[12]? = some (.int 0)) : Met l yX11_showing zs_h_showing ({ frames := 1, cells := 0, slots := 0, locals := 21 } : Room) (zPc [.ref aH, .int iX, .int iWh] (dC, dI) (zTY cB cI cJ cZ cQ) (ws_h_showing cB cI cJ cZ cQ aH iX iWh fsaH) sz) (va_Qi (fun (zr : Int32) (_ : Unit) => zr = (-1)) (fun (_ : Unit) (_ : State) => True) (va_A (ws_h_showing cB cI cJ cZ cQ aH iX iWh fsaH) sz)) 0 0 (va_A (ws_h_showing cB cI cJ cZ cQ aH iX iWh fsaH) sz) := by
  refine Met.ofW (cc := cX11_showing) (maxL := 3) (ret := (some .int)) (by decide) rfl ?_
  intro p e s m args below meth c s₁ B hml hv
  obtain ⟨rfl, hsz, hP0, hK, hO, hD0⟩ := hv
  have hx := B.exec
  have hb := B.bytes
  have hr := B.returns
  have hts := atoms_spec (ws := zs_h_showing) B.pre
  have hown : s.vm.findClass RX11 = some m.cls := findClass_of_methodNamed B.named
  have hlocks := B.notSynchronized
  subst hsz
  have hD8 := hD0.self (sz := s.heap.size)
  generalize hAe : va_A (ws_h_showing cB cI cJ cZ cQ aH iX iWh fsaH) s.heap.size = A at hD8 ⊢
  have hA : ∀ q : Nat, s.heap.size ≤ q → A q := fun q h => by rw [← hAe]; exact Or.inr h
  have hS : va_S A s.heap s.heap [] := va_S.rf
  have hP : va_P (dC, dI) vwCl [(aH, .inr (11, fsaH))] s.heap := hP0
  have hD : va_D A [(aH, .inr (11, fsaH))] := hD8
  have hl := lv_entry ([.ref aH, .int iX, .int iWh]) (n := 3) (Nat.le_of_ble_eq_true rfl)
  rw [lg_entry_eq]
  generalize (lg_sl ([.ref aH, .int iX, .int iWh]) ++ List.replicate (3 - (lg_sl ([.ref aH, .int iX, .int iWh])).length) Slot.unset).toArray = ls at hl ⊢
  have hl : lv_has ls 3 [(0, .ref aH), (1, .int iX), (2, .int iWh)] := hl
  clear hP0 hD8 hD0
  refine zH0 (fun H hP hS => ?_) hP hS
  refine lv_aload_n hx hb dX11_showing_0 rfl (lv_at hl 0 rfl) ?_
  refine lv_iload_n hx hb dX11_showing_1 rfl (lv_at hl 1 rfl) ?_
  have hPc : va_P (dC, dI) vwCl (ws_h_isKept cB cI cJ cZ cQ aH iX fsaH) H := hP.sub [0] rfl
  have hDc := hD.sub (ws' := (ws_h_isKept cB cI cJ cZ cQ aH iX fsaH)) [0] (by decide) rfl
  have hFc := va_free (wc := (ws_h_isKept cB cI cJ cZ cQ aH iX fsaH)) hD hS hA [0] rfl
  refine va_calli (va_runV (As := [.int iX]) (rest := []) ⟨hx, hb, hml, hown, hts⟩ (h_isKept l dC dI cB cI cJ cZ cQ aH iX fsaH H.size hlaH haH_12) (cwV 1 hts g_h_showing_h_isKept_216 rfl rfl rfl (by decide +kernel) ⟨Nat.le_of_ble_eq_true rfl, Nat.le_of_ble_eq_true rfl⟩) ⟨zFB, va_recv hK hP (ci := 11) (q0 := 0) rfl rfl, fun U hU hW => zUp hU hW hPc hK hO hDc⟩ rfl rfl hl.1 rfl (lv_room (Nat.le_of_ble_eq_true rfl)) dX11_showing_2 ⟨Nat.le_of_ble_eq_true rfl, Nat.le_of_ble_eq_true rfl⟩) hS (fun q _ h => hFc q h) hFc (fun r1 u t H1 locs ht hvm hw2 hB hz1 hk1 hS => ?_)
  have hP1 : va_P (dC, dI) vwCl [] H1 := zNilP
  have hD1 : va_D (va_A (ws_h_isKept cB cI cJ cZ cQ aH iX fsaH) H.size) [] := zNilD
  obtain ⟨hP, hD⟩ := va_join (wr := []) (w1 := []) hP hD [0] [] rfl rfl (by decide) (by decide) hk1 hFc hP1 hD1
  generalize H1 = H at hP hS ⊢
  have hP : va_P (dC, dI) vwCl [] H := hP
  have hD : va_D A [] := hD
  obtain rfl : r1 = 0 := hw2
  refine lv_if_ne (tgt := 10) hx hb dX11_showing_5 (by decide) (fun zc => absurd zc (by decide)) (fun _ => ?_)
  refine lv_iconst (v := (-1)) hx hb dX11_showing_8 (by decide) ?_
  exact W.iret (v := (-1)) hx hb hr (fun t ht hW => ⟨⟨(-1), (), rfl, rfl, trivial⟩, hS.F ht⟩) hS.2.2 dX11_showing_9

def zs_h_blame : List Cond := .code yX11_blame cX11_blame 4 (some .int) :: (([.fieldLink RX11 95 "LanternHouse" "isMade" "Z"] : List Cond) ++ (wsX110 ++ []))
theorem gd_h_blame : (zs_h_blame).all goodWord = true := by decide +kernel
theorem in_h_blame_11 : ∀ w ∈ wsX110, w ∈ zs_h_blame := fun w h => List.mem_cons_of_mem _ (List.mem_append_right _ (List.mem_append_left _ h))
abbrev ws_h_blame (cB cI cJ cZ cQ : ClassId) (aH : Nat) (iP : Int32) (iN : Int32) (fsaH : List Value) : va_W := [(aH, .inr (11, fsaH))]
set_option maxHeartbeats 4000000 in
set_option maxRecDepth 100000 in
theorem h_blame (l : Launch) (dC : Nat → ClassId) (dI : Nat → Nat → Nat) (cB cI cJ cZ cQ : ClassId) (aH : Nat) (iP : Int32) (iN : Int32) (fsaH : List Value) (sz : Nat) (hlaH : fsaH.length = 13) (haH_12 : fsaH[12]? = some (.int 0)) : Met l yX11_blame zs_h_blame ({ frames := 0, cells := 0, slots := 0, locals := 0 } : Room) (zPc [.ref aH, .int iP, .int iN] (dC, dI) (zTY cB cI cJ cZ cQ) (ws_h_blame cB cI cJ cZ cQ aH iP iN fsaH) sz) (va_Qi (fun (zr : Int32) (_ : Unit) => zr = (-1)) (fun (_ : Unit) (_ : State) => True) (va_A (ws_h_blame cB cI cJ cZ cQ aH iP iN fsaH) sz)) 0 0 (va_A (ws_h_blame cB cI cJ cZ cQ aH iP iN fsaH) sz) := by
  refine Met.ofW (cc := cX11_blame) (maxL := 4) (ret := (some .int)) (by decide) rfl ?_
  intro p e s m args below meth c s₁ B hml hv
  obtain ⟨rfl, hsz, hP0, hK, hO, hD0⟩ := hv
  have hx := B.exec
  have hb := B.bytes
  have hr := B.returns
  have hts := atoms_spec (ws := zs_h_blame) B.pre
  have hown : s.vm.findClass RX11 = some m.cls := findClass_of_methodNamed B.named
  have hlocks := B.notSynchronized
  subst hsz
  have hD8 := hD0.self (sz := s.heap.size)
  generalize hAe : va_A (ws_h_blame cB cI cJ cZ cQ aH iP iN fsaH) s.heap.size = A at hD8 ⊢
  have hA : ∀ q : Nat, s.heap.size ≤ q → A q := fun q h => by rw [← hAe]; exact Or.inr h
  have hS : va_S A s.heap s.heap [] := va_S.rf
  have hP : va_P (dC, dI) vwCl [(aH, .inr (11, fsaH))] s.heap := hP0
  have hD : va_D A [(aH, .inr (11, fsaH))] := hD8
  have hl := lv_entry ([.ref aH, .int iP, .int iN]) (n := 4) (Nat.le_of_ble_eq_true rfl)
  rw [lg_entry_eq]
  generalize (lg_sl ([.ref aH, .int iP, .int iN]) ++ List.replicate (4 - (lg_sl ([.ref aH, .int iP, .int iN])).length) Slot.unset).toArray = ls at hl ⊢
  have hl : lv_has ls 4 [(0, .ref aH), (1, .int iP), (2, .int iN)] := hl
  clear hP0 hD8 hD0
  refine zH0 (fun H hP hS => ?_) hP hS
  refine lv_aload_n hx hb dX11_blame_0 rfl (lv_at hl 0 rfl) ?_
  refine va_get (D := (dC, dI)) (ci := 11) (v := .int 0) (C := RX11) (T := TX11) (N := 13) hx hb hts in_h_blame_11 hown hK hP 0 rfl rfl 12 (by decide) (hts (.fieldLink RX11 95 "LanternHouse" "isMade" "Z") (by decide +kernel)) (fun _ h9 => h9) haH_12 dX11_blame_1 ?_
  refine lv_if_eq (tgt := 26) hx hb dX11_blame_4 (by decide) (fun _ => ?_) (fun zc => absurd zc (by decide))
  refine lv_iconst (v := (-1)) hx hb dX11_blame_26 (by decide) ?_
  exact W.iret (v := (-1)) hx hb hr (fun t ht hW => ⟨⟨(-1), (), rfl, rfl, trivial⟩, hS.F ht⟩) hS.2.2 dX11_blame_27

def zs_h_where : List Cond := .code yX11_where cX11_where 3 (some .int) :: (([.fieldLink RX11 95 "LanternHouse" "isMade" "Z"] : List Cond) ++ (wsX110 ++ []))
theorem gd_h_where : (zs_h_where).all goodWord = true := by decide +kernel
theorem in_h_where_11 : ∀ w ∈ wsX110, w ∈ zs_h_where := fun w h => List.mem_cons_of_mem _ (List.mem_append_right _ (List.mem_append_left _ h))
abbrev ws_h_where (cB cI cJ cZ cQ : ClassId) (aH : Nat) (iP : Int32) (iHr : Int32) (fsaH : List Value) : va_W := [(aH, .inr (11, fsaH))]
set_option maxHeartbeats 4000000 in
set_option maxRecDepth 100000 in
theorem h_where (l : Launch) (dC : Nat → ClassId) (dI : Nat → Nat → Nat) (cB cI cJ cZ cQ : ClassId) (aH : Nat) (iP : Int32) (iHr : Int32) (fsaH : List Value) (sz : Nat) (hlaH : fsaH.length = 13) (haH_12 : fsaH[12]? = some (.int 0)) : Met l yX11_where zs_h_where ({ frames := 0, cells := 0, slots := 0, locals := 0 } : Room) (zPc [.ref aH, .int iP, .int iHr] (dC, dI) (zTY cB cI cJ cZ cQ) (ws_h_where cB cI cJ cZ cQ aH iP iHr fsaH) sz) (va_Qi (fun (zr : Int32) (_ : Unit) => zr = (-1)) (fun (_ : Unit) (_ : State) => True) (va_A (ws_h_where cB cI cJ cZ cQ aH iP iHr fsaH) sz)) 0 0 (va_A (ws_h_where cB cI cJ cZ cQ aH iP iHr fsaH) sz) := by
  refine Met.ofW (cc := cX11_where) (maxL := 3) (ret := (some .int)) (by decide) rfl ?_
  intro p e s m args below meth c s₁ B hml hv
  obtain ⟨rfl, hsz, hP0, hK, hO, hD0⟩ := hv
  have hx := B.exec
  have hb := B.bytes
  have hr := B.returns
  have hts := atoms_spec (ws := zs_h_where) B.pre
  have hown : s.vm.findClass RX11 = some m.cls := findClass_of_methodNamed B.named
  have hlocks := B.notSynchronized
  subst hsz
  have hD8 := hD0.self (sz := s.heap.size)
  generalize hAe : va_A (ws_h_where cB cI cJ cZ cQ aH iP iHr fsaH) s.heap.size = A at hD8 ⊢
  have hA : ∀ q : Nat, s.heap.size ≤ q → A q := fun q h => by rw [← hAe]; exact Or.inr h
  have hS : va_S A s.heap s.heap [] := va_S.rf
  have hP : va_P (dC, dI) vwCl [(aH, .inr (11, fsaH))] s.heap := hP0
  have hD : va_D A [(aH, .inr (11, fsaH))] := hD8
  have hl := lv_entry ([.ref aH, .int iP, .int iHr]) (n := 3) (Nat.le_of_ble_eq_true rfl)
  rw [lg_entry_eq]
  generalize (lg_sl ([.ref aH, .int iP, .int iHr]) ++ List.replicate (3 - (lg_sl ([.ref aH, .int iP, .int iHr])).length) Slot.unset).toArray = ls at hl ⊢
  have hl : lv_has ls 3 [(0, .ref aH), (1, .int iP), (2, .int iHr)] := hl
  clear hP0 hD8 hD0
  refine zH0 (fun H hP hS => ?_) hP hS
  refine lv_aload_n hx hb dX11_where_0 rfl (lv_at hl 0 rfl) ?_
  refine va_get (D := (dC, dI)) (ci := 11) (v := .int 0) (C := RX11) (T := TX11) (N := 13) hx hb hts in_h_where_11 hown hK hP 0 rfl rfl 12 (by decide) (hts (.fieldLink RX11 95 "LanternHouse" "isMade" "Z") (by decide +kernel)) (fun _ h9 => h9) haH_12 dX11_where_1 ?_
  refine lv_if_eq (tgt := 23) hx hb dX11_where_4 (by decide) (fun _ => ?_) (fun zc => absurd zc (by decide))
  refine lv_iconst (v := (-1)) hx hb dX11_where_23 (by decide) ?_
  exact W.iret (v := (-1)) hx hb hr (fun t ht hW => ⟨⟨(-1), (), rfl, rfl, trivial⟩, hS.F ht⟩) hS.2.2 dX11_where_24

def zs_h_told : List Cond := .code yX11_told cX11_told 3 (some .int) :: (([.fieldLink RX11 61 "LanternHouse" "shows" "LLanternHouse$Shows;", .methodLink RX11 197 yX7_isShow, .instanceMethod yX7_isShow, .selects RX7 yX7_isShow yX7_isShow, .initialized RX7] : List Cond) ++ (zs_c_isShow ++ (wsX110 ++ [])))
theorem gd_h_told : (zs_h_told).all goodWord = true := by decide +kernel
theorem in_h_told_11 : ∀ w ∈ wsX110, w ∈ zs_h_told := fun w h => List.mem_cons_of_mem _ (List.mem_append_right _ (List.mem_append_right _ (List.mem_append_left _ h)))
theorem g_h_told_c_isShow_197 : GoodIn zs_h_told (wsV RX11 197 RX7 yX7_isShow zs_c_isShow) := goodIn_app (goodIn_of _ (by decide +kernel)) (goodIn_sub (fun w h => List.mem_cons_of_mem _ (List.mem_append_right _ (List.mem_append_left _ h))) gd_c_isShow)
abbrev ws_h_told (cB cI cJ cZ cQ : ClassId) (aH aSh : Nat) (iX : Int32) (iWh : Int32) (fsaH : List Value) (fsaSh : List Value) : va_W := [(aH, .inr (11, fsaH)), (aSh, .inr (7, fsaSh))]
set_option maxHeartbeats 4000000 in
set_option maxRecDepth 100000 in
theorem h_told (l : Launch) (dC : Nat → ClassId) (dI : Nat → Nat → Nat) (cB cI cJ cZ cQ : ClassId) (aH aSh : Nat) (iX : Int32) (iWh : Int32) (fsaH : List Value) (fsaSh : List Value) (sz : Nat) (hlaH : fsaH.length = 13) (haH_6 : fsaH[6]? = some (.ref aSh)) (hlaSh : fsaSh.length = 8) (haSh_6 : fsaSh[6]? = some (.int 0)) : Met l yX11_told zs_h_told ({ frames := 1, cells := 0, slots := 0, locals := 21 } : Room) (zPc [.ref aH, .int iX, .int iWh] (dC, dI) (zTY cB cI cJ cZ cQ) (ws_h_told cB cI cJ cZ cQ aH aSh iX iWh fsaH fsaSh) sz) (va_Qi (fun (zr : Int32) (_ : Unit) => zr = (-1)) (fun (_ : Unit) (_ : State) => True) (va_A (ws_h_told cB cI cJ cZ cQ aH aSh iX iWh fsaH fsaSh) sz)) 0 0 (va_A (ws_h_told cB cI cJ cZ cQ aH aSh iX iWh fsaH fsaSh) sz) := by
  refine Met.ofW (cc := cX11_told) (maxL := 3) (ret := (some .int)) (by decide) rfl ?_
  intro p e s m args below meth c s₁ B hml hv
  obtain ⟨rfl, hsz, hP0, hK, hO, hD0⟩ := hv
  have hx := B.exec
  have hb := B.bytes
  have hr := B.returns
  have hts := atoms_spec (ws := zs_h_told) B.pre
  have hown : s.vm.findClass RX11 = some m.cls := findClass_of_methodNamed B.named
  have hlocks := B.notSynchronized
  subst hsz
  have hD8 := hD0.self (sz := s.heap.size)
  generalize hAe : va_A (ws_h_told cB cI cJ cZ cQ aH aSh iX iWh fsaH fsaSh) s.heap.size = A at hD8 ⊢
  have hA : ∀ q : Nat, s.heap.size ≤ q → A q := fun q h => by rw [← hAe]; exact Or.inr h
  have hS : va_S A s.heap s.heap [] := va_S.rf
  have hP : va_P (dC, dI) vwCl [(aH, .inr (11, fsaH)), (aSh, .inr (7, fsaSh))] s.heap := hP0
  have hD : va_D A [(aH, .inr (11, fsaH)), (aSh, .inr (7, fsaSh))] := hD8
  have hl := lv_entry ([.ref aH, .int iX, .int iWh]) (n := 3) (Nat.le_of_ble_eq_true rfl)
  rw [lg_entry_eq]
  generalize (lg_sl ([.ref aH, .int iX, .int iWh]) ++ List.replicate (3 - (lg_sl ([.ref aH, .int iX, .int iWh])).length) Slot.unset).toArray = ls at hl ⊢
  have hl : lv_has ls 3 [(0, .ref aH), (1, .int iX), (2, .int iWh)] := hl
  clear hP0 hD8 hD0
  refine zH0 (fun H hP hS => ?_) hP hS
  refine lv_aload_n hx hb dX11_told_0 rfl (lv_at hl 0 rfl) ?_
  refine va_get (D := (dC, dI)) (ci := 11) (v := .ref aSh) (C := RX11) (T := TX11) (N := 13) hx hb hts in_h_told_11 hown hK hP 0 rfl rfl 6 (by decide) (hts (.fieldLink RX11 61 "LanternHouse" "shows" "LLanternHouse$Shows;") (by decide +kernel)) (fun _ h9 => h9) haH_6 dX11_told_1 ?_
  refine lv_iload_n hx hb dX11_told_4 rfl (lv_at hl 1 rfl) ?_
  have hPc : va_P (dC, dI) vwCl (ws_c_isShow cB cI cJ cZ cQ aSh iX fsaSh) H := hP.sub [1] rfl
  have hDc := hD.sub (ws' := (ws_c_isShow cB cI cJ cZ cQ aSh iX fsaSh)) [1] (by decide) rfl
  have hFc := va_free (wc := (ws_c_isShow cB cI cJ cZ cQ aSh iX fsaSh)) hD hS hA [1] rfl
  refine va_calli (va_runV (As := [.int iX]) (rest := []) ⟨hx, hb, hml, hown, hts⟩ (c_isShow l dC dI cB cI cJ cZ cQ aSh iX fsaSh H.size hlaSh haSh_6) (cwV 1 hts g_h_told_c_isShow_197 rfl rfl rfl (by decide +kernel) ⟨Nat.le_of_ble_eq_true rfl, Nat.le_of_ble_eq_true rfl⟩) ⟨zFB, va_recv hK hP (ci := 7) (q0 := 1) rfl rfl, fun U hU hW => zUp hU hW hPc hK hO hDc⟩ rfl rfl hl.1 rfl (lv_room (Nat.le_of_ble_eq_true rfl)) dX11_told_5 ⟨Nat.le_of_ble_eq_true rfl, Nat.le_of_ble_eq_true rfl⟩) hS (fun q _ h => hFc q h) hFc (fun r1 u t H1 locs ht hvm hw2 hB hz1 hk1 hS => ?_)
  obtain ⟨gs3, hgl4, hgf5, hP1, hD1⟩ := hB
  rw [ht] at hP1
  obtain ⟨hP, hD⟩ := va_join (wr := [(aH, .inr (11, fsaH))]) (w1 := [(aSh, .inr (7, gs3))]) hP hD [1] [0] rfl rfl (by decide) (by decide) hk1 hFc hP1 hD1
  generalize H1 = H at hP hS ⊢
  have hP : va_P (dC, dI) vwCl [(aH, .inr (11, fsaH)), (aSh, .inr (7, gs3))] H := hP
  have hD : va_D A [(aH, .inr (11, fsaH)), (aSh, .inr (7, gs3))] := hD
  obtain rfl : r1 = 0 := hw2
  refine lv_if_ne (tgt := 13) hx hb dX11_told_8 (by decide) (fun zc => absurd zc (by decide)) (fun _ => ?_)
  refine lv_iconst (v := (-1)) hx hb dX11_told_11 (by decide) ?_
  exact W.iret (v := (-1)) hx hb hr (fun t ht hW => ⟨⟨(-1), (), rfl, rfl, trivial⟩, hS.F ht⟩) hS.2.2 dX11_told_12

def zs_h_count : List Cond := .code yX11_count cX11_count 2 (some .int) :: (([.fieldLink RX11 35 "LanternHouse" "rails" "LLanternHouse$Rails;", .fieldLink RX11 285 "LanternHouse$Rails" "halls" "I", .fieldLink RX11 141 "LanternHouse$Rails" "trains" "I", .fieldLink RX11 42 "LanternHouse" "stock" "LLanternHouse$Stock;", .fieldLink RX11 287 "LanternHouse$Stock" "size" "I", .fieldLink RX11 49 "LanternHouse" "facts" "LLanternHouse$Facts;", .fieldLink RX11 290 "LanternHouse$Facts" "size" "I", .fieldLink RX11 61 "LanternHouse" "shows" "LLanternHouse$Shows;", .fieldLink RX11 117 "LanternHouse$Shows" "text" "LLanternHouse$Lectures;", .fieldLink RX11 291 "LanternHouse$Lectures" "size" "I", .fieldLink RX11 292 "LanternHouse$Shows" "size" "I", .fieldLink RX11 95 "LanternHouse" "isMade" "Z", .fieldLink RX11 10 "LanternHouse" "tape" "LLanternHouse$Tape;", .fieldLink RX11 99 "LanternHouse$Tape" "length" "I"] : List Cond) ++ (wsX110 ++ (wsX40 ++ (wsX80 ++ (wsX00 ++ (wsX70 ++ (wsX20 ++ (wsX90 ++ []))))))))
theorem gd_h_count : (zs_h_count).all goodWord = true := by decide +kernel
theorem in_h_count_11 : ∀ w ∈ wsX110, w ∈ zs_h_count := fun w h => List.mem_cons_of_mem _ (List.mem_append_right _ (List.mem_append_left _ h))
theorem in_h_count_4 : ∀ w ∈ wsX40, w ∈ zs_h_count := fun w h => List.mem_cons_of_mem _ (List.mem_append_right _ (List.mem_append_right _ (List.mem_append_left _ h)))
theorem in_h_count_8 : ∀ w ∈ wsX80, w ∈ zs_h_count := fun w h => List.mem_cons_of_mem _ (List.mem_append_right _ (List.mem_append_right _ (List.mem_append_right _ (List.mem_append_left _ h))))
theorem in_h_count_0 : ∀ w ∈ wsX00, w ∈ zs_h_count := fun w h => List.mem_cons_of_mem _ (List.mem_append_right _ (List.mem_append_right _ (List.mem_append_right _ (List.mem_append_right _ (List.mem_append_left _ h)))))
theorem in_h_count_7 : ∀ w ∈ wsX70, w ∈ zs_h_count := fun w h => List.mem_cons_of_mem _ (List.mem_append_right _ (List.mem_append_right _ (List.mem_append_right _ (List.mem_append_right _ (List.mem_append_right _ (List.mem_append_left _ h))))))
theorem in_h_count_2 : ∀ w ∈ wsX20, w ∈ zs_h_count := fun w h => List.mem_cons_of_mem _ (List.mem_append_right _ (List.mem_append_right _ (List.mem_append_right _ (List.mem_append_right _ (List.mem_append_right _ (List.mem_append_right _ (List.mem_append_left _ h)))))))
theorem in_h_count_9 : ∀ w ∈ wsX90, w ∈ zs_h_count := fun w h => List.mem_cons_of_mem _ (List.mem_append_right _ (List.mem_append_right _ (List.mem_append_right _ (List.mem_append_right _ (List.mem_append_right _ (List.mem_append_right _ (List.mem_append_right _ (List.mem_append_left _ h))))))))
abbrev ws_h_count (cB cI cJ cZ cQ : ClassId) (aH aRa aS aF aSh aX aT : Nat) (iWh : Int32) (fsaH : List Value) (fsaRa : List Value) (fsaS : List Value) (fsaF : List Value) (fsaSh : List Value) (fsaX : List Value) (fsaT : List Value) : va_W := [(aH, .inr (11, fsaH)), (aRa, .inr (4, fsaRa)), (aS, .inr (8, fsaS)), (aF, .inr (0, fsaF)), (aSh, .inr (7, fsaSh)), (aX, .inr (2, fsaX)), (aT, .inr (9, fsaT))]
set_option maxHeartbeats 4000000 in
set_option maxRecDepth 100000 in
theorem h_count (l : Launch) (dC : Nat → ClassId) (dI : Nat → Nat → Nat) (cB cI cJ cZ cQ : ClassId) (aH aRa aS aF aSh aX aT : Nat) (iWh : Int32) (fsaH : List Value) (fsaRa : List Value) (fsaS : List Value) (fsaF : List Value) (fsaSh : List Value) (fsaX : List Value) (fsaT : List Value) (sz : Nat) (hlaH : fsaH.length = 13) (haH_0 : fsaH[0]? = some (.ref aT)) (haH_3 : fsaH[3]? = some (.ref aRa)) (haH_4 : fsaH[4]? = some (.ref aS)) (haH_5 : fsaH[5]? = some (.ref aF)) (haH_6 : fsaH[6]? = some (.ref aSh)) (haH_12 : fsaH[12]? = some (.int 0)) (hlaRa : fsaRa.length = 8) (haRa_6 : fsaRa[6]? = some (.int 1)) (haRa_7 : fsaRa[7]? = some (.int 0)) (hlaS : fsaS.length = 3) (haS_2 : fsaS[2]? = some (.int 0)) (hlaF : fsaF.length = 5) (haF_4 : fsaF[4]? = some (.int 0)) (hlaSh : fsaSh.length = 8) (haSh_6 : fsaSh[6]? = some (.int 0)) (haSh_7 : fsaSh[7]? = some (.ref aX)) (hlaX : fsaX.length = 13) (haX_12 : fsaX[12]? = some (.int 0)) (hlaT : fsaT.length = 2) (haT_1 : fsaT[1]? = some (.int 0)) : Met l yX11_count zs_h_count ({ frames := 0, cells := 0, slots := 0, locals := 0 } : Room) (zPc [.ref aH, .int iWh] (dC, dI) (zTY cB cI cJ cZ cQ) (ws_h_count cB cI cJ cZ cQ aH aRa aS aF aSh aX aT iWh fsaH fsaRa fsaS fsaF fsaSh fsaX fsaT) sz) (va_Qi (fun (zr : Int32) (_ : Unit) => zr = sp_count iWh) (fun (_ : Unit) (_ : State) => True) (va_A (ws_h_count cB cI cJ cZ cQ aH aRa aS aF aSh aX aT iWh fsaH fsaRa fsaS fsaF fsaSh fsaX fsaT) sz)) 0 0 (va_A (ws_h_count cB cI cJ cZ cQ aH aRa aS aF aSh aX aT iWh fsaH fsaRa fsaS fsaF fsaSh fsaX fsaT) sz) := by
  refine Met.ofW (cc := cX11_count) (maxL := 2) (ret := (some .int)) (by decide) rfl ?_
  intro p e s m args below meth c s₁ B hml hv
  obtain ⟨rfl, hsz, hP0, hK, hO, hD0⟩ := hv
  have hx := B.exec
  have hb := B.bytes
  have hr := B.returns
  have hts := atoms_spec (ws := zs_h_count) B.pre
  have hown : s.vm.findClass RX11 = some m.cls := findClass_of_methodNamed B.named
  have hlocks := B.notSynchronized
  subst hsz
  have hD8 := hD0.self (sz := s.heap.size)
  generalize hAe : va_A (ws_h_count cB cI cJ cZ cQ aH aRa aS aF aSh aX aT iWh fsaH fsaRa fsaS fsaF fsaSh fsaX fsaT) s.heap.size = A at hD8 ⊢
  have hA : ∀ q : Nat, s.heap.size ≤ q → A q := fun q h => by rw [← hAe]; exact Or.inr h
  have hS : va_S A s.heap s.heap [] := va_S.rf
  have hP : va_P (dC, dI) vwCl [(aH, .inr (11, fsaH)), (aRa, .inr (4, fsaRa)), (aS, .inr (8, fsaS)), (aF, .inr (0, fsaF)), (aSh, .inr (7, fsaSh)), (aX, .inr (2, fsaX)), (aT, .inr (9, fsaT))] s.heap := hP0
  have hD : va_D A [(aH, .inr (11, fsaH)), (aRa, .inr (4, fsaRa)), (aS, .inr (8, fsaS)), (aF, .inr (0, fsaF)), (aSh, .inr (7, fsaSh)), (aX, .inr (2, fsaX)), (aT, .inr (9, fsaT))] := hD8
  have hl := lv_entry ([.ref aH, .int iWh]) (n := 2) (Nat.le_of_ble_eq_true rfl)
  rw [lg_entry_eq]
  generalize (lg_sl ([.ref aH, .int iWh]) ++ List.replicate (2 - (lg_sl ([.ref aH, .int iWh])).length) Slot.unset).toArray = ls at hl ⊢
  have hl : lv_has ls 2 [(0, .ref aH), (1, .int iWh)] := hl
  clear hP0 hD8 hD0
  refine zH0 (fun H hP hS => ?_) hP hS
  refine lv_iload_n hx hb dX11_count_0 rfl (lv_at hl 1 rfl) ?_
  rcases z_tab9 iWh with rfl | rfl | rfl | rfl | rfl | rfl | rfl | rfl | rfl | rfl | hout
  · refine lv_tableIn (off := 55) (tgt := 56) hx hb dX11_count_1 (by decide) (by decide) (by decide) (by decide) ?_
    refine lv_aload_n hx hb dX11_count_56 rfl (lv_at hl 0 rfl) ?_
    refine va_get (D := (dC, dI)) (ci := 11) (v := .ref aRa) (C := RX11) (T := TX11) (N := 13) hx hb hts in_h_count_11 hown hK hP 0 rfl rfl 3 (by decide) (hts (.fieldLink RX11 35 "LanternHouse" "rails" "LLanternHouse$Rails;") (by decide +kernel)) (fun _ h9 => h9) haH_3 dX11_count_57 ?_
    refine va_get (D := (dC, dI)) (ci := 4) (v := .int 1) (C := RX4) (T := TX4) (N := 8) hx hb hts in_h_count_4 hown hK hP 1 rfl rfl 6 (by decide) (hts (.fieldLink RX11 285 "LanternHouse$Rails" "halls" "I") (by decide +kernel)) (fun _ h9 => h9) haRa_6 dX11_count_60 ?_
    exact W.iret (v := 1) hx hb hr (fun t ht hW => ⟨⟨1, (), rfl, (by first | rfl | decide | (unfold sp_count; split <;> rename_i zh <;> first | rfl | (exfalso; simp only [Int32.lt_iff_toInt_lt, Int32.le_iff_toInt_le, ← Int32.toInt_inj, zi_m1, zi_0, zi_1, zi_6, zi_8, zi_M, zi_16, zi_20, zi_23, zi_24, zi_27, zi_29, zi_30, zi_40, zi_500, zi_700, zi_1000, true_and, and_true] at zh  <;> omega))), trivial⟩, hS.F ht⟩) hS.2.2 dX11_count_63
  · refine lv_tableIn (off := 63) (tgt := 64) hx hb dX11_count_1 (by decide) (by decide) (by decide) (by decide) ?_
    refine lv_aload_n hx hb dX11_count_64 rfl (lv_at hl 0 rfl) ?_
    refine va_get (D := (dC, dI)) (ci := 11) (v := .ref aRa) (C := RX11) (T := TX11) (N := 13) hx hb hts in_h_count_11 hown hK hP 0 rfl rfl 3 (by decide) (hts (.fieldLink RX11 35 "LanternHouse" "rails" "LLanternHouse$Rails;") (by decide +kernel)) (fun _ h9 => h9) haH_3 dX11_count_65 ?_
    refine va_get (D := (dC, dI)) (ci := 4) (v := .int 0) (C := RX4) (T := TX4) (N := 8) hx hb hts in_h_count_4 hown hK hP 1 rfl rfl 7 (by decide) (hts (.fieldLink RX11 141 "LanternHouse$Rails" "trains" "I") (by decide +kernel)) (fun _ h9 => h9) haRa_7 dX11_count_68 ?_
    exact W.iret (v := 0) hx hb hr (fun t ht hW => ⟨⟨0, (), rfl, (by first | rfl | decide | (unfold sp_count; split <;> rename_i zh <;> first | rfl | (exfalso; simp only [Int32.lt_iff_toInt_lt, Int32.le_iff_toInt_le, ← Int32.toInt_inj, zi_m1, zi_0, zi_1, zi_6, zi_8, zi_M, zi_16, zi_20, zi_23, zi_24, zi_27, zi_29, zi_30, zi_40, zi_500, zi_700, zi_1000, true_and, and_true] at zh  <;> omega))), trivial⟩, hS.F ht⟩) hS.2.2 dX11_count_71
  · refine lv_tableIn (off := 71) (tgt := 72) hx hb dX11_count_1 (by decide) (by decide) (by decide) (by decide) ?_
    refine lv_aload_n hx hb dX11_count_72 rfl (lv_at hl 0 rfl) ?_
    refine va_get (D := (dC, dI)) (ci := 11) (v := .ref aS) (C := RX11) (T := TX11) (N := 13) hx hb hts in_h_count_11 hown hK hP 0 rfl rfl 4 (by decide) (hts (.fieldLink RX11 42 "LanternHouse" "stock" "LLanternHouse$Stock;") (by decide +kernel)) (fun _ h9 => h9) haH_4 dX11_count_73 ?_
    refine va_get (D := (dC, dI)) (ci := 8) (v := .int 0) (C := RX8) (T := TX8) (N := 3) hx hb hts in_h_count_8 hown hK hP 2 rfl rfl 2 (by decide) (hts (.fieldLink RX11 287 "LanternHouse$Stock" "size" "I") (by decide +kernel)) (fun _ h9 => h9) haS_2 dX11_count_76 ?_
    exact W.iret (v := 0) hx hb hr (fun t ht hW => ⟨⟨0, (), rfl, (by first | rfl | decide | (unfold sp_count; split <;> rename_i zh <;> first | rfl | (exfalso; simp only [Int32.lt_iff_toInt_lt, Int32.le_iff_toInt_le, ← Int32.toInt_inj, zi_m1, zi_0, zi_1, zi_6, zi_8, zi_M, zi_16, zi_20, zi_23, zi_24, zi_27, zi_29, zi_30, zi_40, zi_500, zi_700, zi_1000, true_and, and_true] at zh  <;> omega))), trivial⟩, hS.F ht⟩) hS.2.2 dX11_count_79
  · refine lv_tableIn (off := 79) (tgt := 80) hx hb dX11_count_1 (by decide) (by decide) (by decide) (by decide) ?_
    refine lv_aload_n hx hb dX11_count_80 rfl (lv_at hl 0 rfl) ?_
    refine va_get (D := (dC, dI)) (ci := 11) (v := .ref aF) (C := RX11) (T := TX11) (N := 13) hx hb hts in_h_count_11 hown hK hP 0 rfl rfl 5 (by decide) (hts (.fieldLink RX11 49 "LanternHouse" "facts" "LLanternHouse$Facts;") (by decide +kernel)) (fun _ h9 => h9) haH_5 dX11_count_81 ?_
    refine va_get (D := (dC, dI)) (ci := 0) (v := .int 0) (C := RX0) (T := TX0) (N := 5) hx hb hts in_h_count_0 hown hK hP 3 rfl rfl 4 (by decide) (hts (.fieldLink RX11 290 "LanternHouse$Facts" "size" "I") (by decide +kernel)) (fun _ h9 => h9) haF_4 dX11_count_84 ?_
    exact W.iret (v := 0) hx hb hr (fun t ht hW => ⟨⟨0, (), rfl, (by first | rfl | decide | (unfold sp_count; split <;> rename_i zh <;> first | rfl | (exfalso; simp only [Int32.lt_iff_toInt_lt, Int32.le_iff_toInt_le, ← Int32.toInt_inj, zi_m1, zi_0, zi_1, zi_6, zi_8, zi_M, zi_16, zi_20, zi_23, zi_24, zi_27, zi_29, zi_30, zi_40, zi_500, zi_700, zi_1000, true_and, and_true] at zh  <;> omega))), trivial⟩, hS.F ht⟩) hS.2.2 dX11_count_87
  · refine lv_tableIn (off := 87) (tgt := 88) hx hb dX11_count_1 (by decide) (by decide) (by decide) (by decide) ?_
    refine lv_aload_n hx hb dX11_count_88 rfl (lv_at hl 0 rfl) ?_
    refine va_get (D := (dC, dI)) (ci := 11) (v := .ref aSh) (C := RX11) (T := TX11) (N := 13) hx hb hts in_h_count_11 hown hK hP 0 rfl rfl 6 (by decide) (hts (.fieldLink RX11 61 "LanternHouse" "shows" "LLanternHouse$Shows;") (by decide +kernel)) (fun _ h9 => h9) haH_6 dX11_count_89 ?_
    refine va_get (D := (dC, dI)) (ci := 7) (v := .ref aX) (C := RX7) (T := TX7) (N := 8) hx hb hts in_h_count_7 hown hK hP 4 rfl rfl 7 (by decide) (hts (.fieldLink RX11 117 "LanternHouse$Shows" "text" "LLanternHouse$Lectures;") (by decide +kernel)) (fun _ h9 => h9) haSh_7 dX11_count_92 ?_
    refine va_get (D := (dC, dI)) (ci := 2) (v := .int 0) (C := RX2) (T := TX2) (N := 13) hx hb hts in_h_count_2 hown hK hP 5 rfl rfl 12 (by decide) (hts (.fieldLink RX11 291 "LanternHouse$Lectures" "size" "I") (by decide +kernel)) (fun _ h9 => h9) haX_12 dX11_count_95 ?_
    exact W.iret (v := 0) hx hb hr (fun t ht hW => ⟨⟨0, (), rfl, (by first | rfl | decide | (unfold sp_count; split <;> rename_i zh <;> first | rfl | (exfalso; simp only [Int32.lt_iff_toInt_lt, Int32.le_iff_toInt_le, ← Int32.toInt_inj, zi_m1, zi_0, zi_1, zi_6, zi_8, zi_M, zi_16, zi_20, zi_23, zi_24, zi_27, zi_29, zi_30, zi_40, zi_500, zi_700, zi_1000, true_and, and_true] at zh  <;> omega))), trivial⟩, hS.F ht⟩) hS.2.2 dX11_count_98
  · refine lv_tableIn (off := 98) (tgt := 99) hx hb dX11_count_1 (by decide) (by decide) (by decide) (by decide) ?_
    refine lv_aload_n hx hb dX11_count_99 rfl (lv_at hl 0 rfl) ?_
    refine va_get (D := (dC, dI)) (ci := 11) (v := .ref aSh) (C := RX11) (T := TX11) (N := 13) hx hb hts in_h_count_11 hown hK hP 0 rfl rfl 6 (by decide) (hts (.fieldLink RX11 61 "LanternHouse" "shows" "LLanternHouse$Shows;") (by decide +kernel)) (fun _ h9 => h9) haH_6 dX11_count_100 ?_
    refine va_get (D := (dC, dI)) (ci := 7) (v := .int 0) (C := RX7) (T := TX7) (N := 8) hx hb hts in_h_count_7 hown hK hP 4 rfl rfl 6 (by decide) (hts (.fieldLink RX11 292 "LanternHouse$Shows" "size" "I") (by decide +kernel)) (fun _ h9 => h9) haSh_6 dX11_count_103 ?_
    exact W.iret (v := 0) hx hb hr (fun t ht hW => ⟨⟨0, (), rfl, (by first | rfl | decide | (unfold sp_count; split <;> rename_i zh <;> first | rfl | (exfalso; simp only [Int32.lt_iff_toInt_lt, Int32.le_iff_toInt_le, ← Int32.toInt_inj, zi_m1, zi_0, zi_1, zi_6, zi_8, zi_M, zi_16, zi_20, zi_23, zi_24, zi_27, zi_29, zi_30, zi_40, zi_500, zi_700, zi_1000, true_and, and_true] at zh  <;> omega))), trivial⟩, hS.F ht⟩) hS.2.2 dX11_count_106
  · refine lv_tableIn (off := 106) (tgt := 107) hx hb dX11_count_1 (by decide) (by decide) (by decide) (by decide) ?_
    refine lv_aload_n hx hb dX11_count_107 rfl (lv_at hl 0 rfl) ?_
    refine va_get (D := (dC, dI)) (ci := 11) (v := .int 0) (C := RX11) (T := TX11) (N := 13) hx hb hts in_h_count_11 hown hK hP 0 rfl rfl 12 (by decide) (hts (.fieldLink RX11 95 "LanternHouse" "isMade" "Z") (by decide +kernel)) (fun _ h9 => h9) haH_12 dX11_count_108 ?_
    refine lv_if_eq (tgt := 127) hx hb dX11_count_111 (by decide) (fun _ => ?_) (fun zc => absurd zc (by decide))
    refine lv_iconst (v := (-1)) hx hb dX11_count_127 (by decide) ?_
    exact W.iret (v := (-1)) hx hb hr (fun t ht hW => ⟨⟨(-1), (), rfl, (by first | rfl | decide | (unfold sp_count; split <;> rename_i zh <;> first | rfl | (exfalso; simp only [Int32.lt_iff_toInt_lt, Int32.le_iff_toInt_le, ← Int32.toInt_inj, zi_m1, zi_0, zi_1, zi_6, zi_8, zi_M, zi_16, zi_20, zi_23, zi_24, zi_27, zi_29, zi_30, zi_40, zi_500, zi_700, zi_1000, true_and, and_true] at zh  <;> omega))), trivial⟩, hS.F ht⟩) hS.2.2 dX11_count_128
  · refine lv_tableIn (off := 128) (tgt := 129) hx hb dX11_count_1 (by decide) (by decide) (by decide) (by decide) ?_
    refine lv_aload_n hx hb dX11_count_129 rfl (lv_at hl 0 rfl) ?_
    refine va_get (D := (dC, dI)) (ci := 11) (v := .int 0) (C := RX11) (T := TX11) (N := 13) hx hb hts in_h_count_11 hown hK hP 0 rfl rfl 12 (by decide) (hts (.fieldLink RX11 95 "LanternHouse" "isMade" "Z") (by decide +kernel)) (fun _ h9 => h9) haH_12 dX11_count_130 ?_
    refine lv_if_eq (tgt := 146) hx hb dX11_count_133 (by decide) (fun _ => ?_) (fun zc => absurd zc (by decide))
    refine lv_iconst (v := (-1)) hx hb dX11_count_146 (by decide) ?_
    exact W.iret (v := (-1)) hx hb hr (fun t ht hW => ⟨⟨(-1), (), rfl, (by first | rfl | decide | (unfold sp_count; split <;> rename_i zh <;> first | rfl | (exfalso; simp only [Int32.lt_iff_toInt_lt, Int32.le_iff_toInt_le, ← Int32.toInt_inj, zi_m1, zi_0, zi_1, zi_6, zi_8, zi_M, zi_16, zi_20, zi_23, zi_24, zi_27, zi_29, zi_30, zi_40, zi_500, zi_700, zi_1000, true_and, and_true] at zh  <;> omega))), trivial⟩, hS.F ht⟩) hS.2.2 dX11_count_147
  · refine lv_tableIn (off := 147) (tgt := 148) hx hb dX11_count_1 (by decide) (by decide) (by decide) (by decide) ?_
    refine lv_aload_n hx hb dX11_count_148 rfl (lv_at hl 0 rfl) ?_
    refine va_get (D := (dC, dI)) (ci := 11) (v := .int 0) (C := RX11) (T := TX11) (N := 13) hx hb hts in_h_count_11 hown hK hP 0 rfl rfl 12 (by decide) (hts (.fieldLink RX11 95 "LanternHouse" "isMade" "Z") (by decide +kernel)) (fun _ h9 => h9) haH_12 dX11_count_149 ?_
    refine lv_if_eq (tgt := 165) hx hb dX11_count_152 (by decide) (fun _ => ?_) (fun zc => absurd zc (by decide))
    refine lv_iconst (v := (-1)) hx hb dX11_count_165 (by decide) ?_
    exact W.iret (v := (-1)) hx hb hr (fun t ht hW => ⟨⟨(-1), (), rfl, (by first | rfl | decide | (unfold sp_count; split <;> rename_i zh <;> first | rfl | (exfalso; simp only [Int32.lt_iff_toInt_lt, Int32.le_iff_toInt_le, ← Int32.toInt_inj, zi_m1, zi_0, zi_1, zi_6, zi_8, zi_M, zi_16, zi_20, zi_23, zi_24, zi_27, zi_29, zi_30, zi_40, zi_500, zi_700, zi_1000, true_and, and_true] at zh  <;> omega))), trivial⟩, hS.F ht⟩) hS.2.2 dX11_count_166
  · refine lv_tableIn (off := 166) (tgt := 167) hx hb dX11_count_1 (by decide) (by decide) (by decide) (by decide) ?_
    refine lv_aload_n hx hb dX11_count_167 rfl (lv_at hl 0 rfl) ?_
    refine va_get (D := (dC, dI)) (ci := 11) (v := .ref aT) (C := RX11) (T := TX11) (N := 13) hx hb hts in_h_count_11 hown hK hP 0 rfl rfl 0 (by decide) (hts (.fieldLink RX11 10 "LanternHouse" "tape" "LLanternHouse$Tape;") (by decide +kernel)) (fun _ h9 => h9) haH_0 dX11_count_168 ?_
    refine va_get (D := (dC, dI)) (ci := 9) (v := .int 0) (C := RX9) (T := TX9) (N := 2) hx hb hts in_h_count_9 hown hK hP 6 rfl rfl 1 (by decide) (hts (.fieldLink RX11 99 "LanternHouse$Tape" "length" "I") (by decide +kernel)) (fun _ h9 => h9) haT_1 dX11_count_171 ?_
    exact W.iret (v := 0) hx hb hr (fun t ht hW => ⟨⟨0, (), rfl, (by first | rfl | decide | (unfold sp_count; split <;> rename_i zh <;> first | rfl | (exfalso; simp only [Int32.lt_iff_toInt_lt, Int32.le_iff_toInt_le, ← Int32.toInt_inj, zi_m1, zi_0, zi_1, zi_6, zi_8, zi_M, zi_16, zi_20, zi_23, zi_24, zi_27, zi_29, zi_30, zi_40, zi_500, zi_700, zi_1000, true_and, and_true] at zh  <;> omega))), trivial⟩, hS.F ht⟩) hS.2.2 dX11_count_174
  · refine lv_tableOut (tgt := 175) hx hb dX11_count_1 hout (by decide) ?_
    refine lv_iconst (v := (-1)) hx hb dX11_count_175 (by decide) ?_
    exact W.iret (v := (-1)) hx hb hr (fun t ht hW => ⟨⟨(-1), (), rfl, (sp_count_out hout).symm, trivial⟩, hS.F ht⟩) hS.2.2 dX11_count_176

