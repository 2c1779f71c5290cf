def zs_n_Tape : List Cond := .code yX9_init cX9_init 1 none :: (([.methodLink RX9 3 objectInit, .instanceMethod objectInit, .code objectInit ⟨#[0xb1]⟩ 1 none, .arrayClass .byte, .fieldLink RX9 11 "LanternHouse$Tape" "bytes" "[B", .fieldLink RX9 15 "LanternHouse$Tape" "length" "I"] : List Cond) ++ (wsX90 ++ []))
theorem gd_n_Tape : (zs_n_Tape).all goodWord = true := by decide +kernel
theorem in_n_Tape_9 : ∀ w ∈ wsX90, w ∈ zs_n_Tape := fun w h => List.mem_cons_of_mem _ (List.mem_append_right _ (List.mem_append_left _ h))
abbrev ws_n_Tape (cB cI cJ cZ cQ : ClassId) (a0 : Nat) : va_W := [(a0, .inr (9, [.null, .int 0]))]
set_option maxHeartbeats 4000000 in
set_option maxRecDepth 100000 in
theorem n_Tape (l : Launch) (dC : Nat → ClassId) (dI : Nat → Nat → Nat) (cB cI cJ cZ cQ : ClassId) (a0 : Nat) (sz : Nat) : Met l yX9_init zs_n_Tape ({ frames := 1, cells := 1, slots := 3000, locals := 12 } : Room) (zPc [.ref a0] (dC, dI) (zTY cB cI cJ cZ cQ) (ws_n_Tape cB cI cJ cZ cQ a0) sz) (va_Qv (fun (_ : Unit) => True) (fun (_ : Unit) (t : State) => ∃ (ebytes : Nat), ∃ (gsa0 : List Value), gsa0.length = 2 ∧ gsa0[0]? = some (.ref ebytes) ∧ gsa0[1]? = some (.int 0) ∧ va_P (dC, dI) vwCl [(a0, .inr (9, gsa0)), (ebytes, .inl (cB, 3000, .inl (fun _ => 0)))] t.heap ∧ va_D (va_A (ws_n_Tape cB cI cJ cZ cQ a0) sz) [(a0, .inr (9, gsa0)), (ebytes, .inl (cB, 3000, .inl (fun _ => 0)))]) (va_A (ws_n_Tape cB cI cJ cZ cQ a0) sz)) 1 3000 (va_A (ws_n_Tape cB cI cJ cZ cQ a0) sz) := by
  refine Met.ofW (cc := cX9_init) (maxL := 1) (ret := none) (by decide) rfl ?_
  intro p e s m args below meth c s₁ B hml hv
  obtain ⟨rfl, hsz, hP0, hK, hO, hD0⟩ := hv
  have hx := B.exec
  have hb := B.bytes
  have hr := B.returns
  have hts := atoms_spec (ws := zs_n_Tape) B.pre
  have hown : s.vm.findClass RX9 = some m.cls := findClass_of_methodNamed B.named
  have hlocks := B.notSynchronized
  have hin : meth.name = "<init>" := (name_of_methodNamed B.named B.method).1
  subst hsz
  have hD8 := hD0.self (sz := s.heap.size)
  generalize hAe : va_A (ws_n_Tape cB cI cJ cZ cQ a0) s.heap.size = A at hD8 ⊢
  have hA : ∀ q : Nat, s.heap.size ≤ q → A q := fun q h => by rw [← hAe]; exact Or.inr h
  have hS : va_S A s.heap s.heap [] := va_S.rf
  have hP : va_P (dC, dI) vwCl [(a0, .inr (9, [.null, .int 0]))] s.heap := hP0
  have hD : va_D A [(a0, .inr (9, [.null, .int 0]))] := hD8
  have hl := lv_entry ([.ref a0]) (n := 1) (Nat.le_of_ble_eq_true rfl)
  rw [lg_entry_eq]
  generalize (lg_sl ([.ref a0]) ++ List.replicate (1 - (lg_sl ([.ref a0])).length) Slot.unset).toArray = ls at hl ⊢
  have hl : lv_has ls 1 [(0, .ref a0)] := hl
  clear hP0 hD8 hD0
  refine zH0 (fun H hP hS => ?_) hP hS
  refine lv_aload_n hx hb dX9_init_0 rfl (lv_at hl 0 rfl) ?_
  refine W.objInit hx hb hown (hts (.methodLink RX9 3 objectInit) (by decide +kernel)) (hts (.instanceMethod objectInit) (by decide +kernel)) (hts (.code objectInit ⟨#[0xb1]⟩ 1 none) (by decide +kernel)) rfl (by rw [hml]; exact hl.1) rfl dX9_init_1 (Nat.le_of_ble_eq_true rfl) (Nat.le_of_ble_eq_true rfl) ?_
  refine W.eq (g2 := F0 m 4 ls []) rfl ?_
  refine lv_aload_n hx hb dX9_init_4 rfl (lv_at hl 0 rfl) ?_
  refine lv_sipush (v := 3000) hx hb dX9_init_5 (by decide) ?_
  refine z_newa (atype := .byte) (t0 := 0) (N' := 3000) (a0 := (3000, .inl (fun _ => 0))) (ty := .byte) hx hb (hts (.arrayClass .byte) (by decide +kernel)) rfl hK rfl zra_B hP hD hS hA (fun _ => rfl) (by decide) (by decide) (by decide) (Nat.le_of_ble_eq_true rfl) (Nat.le_of_ble_eq_true rfl) dX9_init_8 (fun q1 H hP hD hS => ?_)
  have hP : va_P (dC, dI) vwCl [(a0, .inr (9, [.null, .int 0])), (q1, .inl (cB, 3000, .inl (fun _ => 0)))] H := hP
  have hD : va_D A [(a0, .inr (9, [.null, .int 0])), (q1, .inl (cB, 3000, .inl (fun _ => 0)))] := hD
  refine W.widen (k := 1) (n := 3000) (Nat.le_of_ble_eq_true rfl) (Nat.le_of_ble_eq_true rfl) ?_
  refine va_putF (D := (dC, dI)) (ci := 9) (v := .ref q1) (ty := .array .byte) (C := RX9) (T := TX9) (N := 2) hx hb hts in_n_Tape_9 tyX9 tyX9_ok nmX9 hown hK hP hD hS 0 rfl rfl 0 (by decide) (hts (.fieldLink RX9 11 "LanternHouse$Tape" "bytes" "[B") (by decide +kernel)) (fun _ h9 => h9) rfl hin rfl (by decide +kernel) rfl rfl (Nat.le_of_ble_eq_true rfl) dX9_init_10 (fun H locs hP hD hS => ?_)
  have hP : va_P (dC, dI) vwCl [(a0, .inr (9, [.ref q1, .int 0])), (q1, .inl (cB, 3000, .inl (fun _ => 0)))] H := hP
  have hD : va_D A [(a0, .inr (9, [.ref q1, .int 0])), (q1, .inl (cB, 3000, .inl (fun _ => 0)))] := hD
  refine lv_aload_n hx hb dX9_init_13 rfl (lv_at hl 0 rfl) ?_
  refine lv_iconst (v := 0) hx hb dX9_init_14 (by decide) ?_
  refine va_put (D := (dC, dI)) (ci := 9) (v := .int 0) (ty := .int) (C := RX9) (T := TX9) (N := 2) hx hb hts in_n_Tape_9 tyX9 tyX9_ok nmX9 hown hK hP hD hS 0 rfl rfl 1 (by decide) (hts (.fieldLink RX9 15 "LanternHouse$Tape" "length" "I") (by decide +kernel)) (fun _ h9 => h9) rfl (by decide +kernel) rfl rfl (Nat.le_of_ble_eq_true rfl) dX9_init_15 (fun H locs hP hD hS => ?_)
  have hP : va_P (dC, dI) vwCl [(a0, .inr (9, [.ref q1, .int 0])), (q1, .inl (cB, 3000, .inl (fun _ => 0)))] H := hP
  have hD : va_D A [(a0, .inr (9, [.ref q1, .int 0])), (q1, .inl (cB, 3000, .inl (fun _ => 0)))] := hD
  have hP9 : va_P (dC, dI) vwCl [(a0, .inr (9, [.ref q1, .int 0])), (q1, .inl (cB, 3000, .inl (fun _ => 0)))] H := hP.sub [0, 1] rfl
  have hD9 : va_D A [(a0, .inr (9, [.ref q1, .int 0])), (q1, .inl (cB, 3000, .inl (fun _ => 0)))] := hD.sub [0, 1] (by decide) rfl
  exact W.vret hx hb hr (fun t ht hW => ⟨⟨(), rfl, trivial, ⟨q1, [.ref q1, .int 0], rfl, rfl, rfl, by rw [ht]; exact hP9, hD9⟩⟩, hS.F ht⟩) hS.2.2 dX9_init_18

