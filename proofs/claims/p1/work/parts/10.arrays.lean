def zs_c_fillJ : List Cond := .code yJ7_fill_d0a16 cJ7_fill_d0a16 5 none :: (([] : List Cond) ++ [])
theorem gd_c_fillJ : (zs_c_fillJ).all goodWord = true := by decide +kernel
abbrev ws_c_fillJ (cB cI cJ cZ cQ : ClassId) (qA N : Nat) (yV : Int64) (fA : Nat → Int64) : va_W := [(qA, .inl (cJ, N, .inr (.inl fA)))]
set_option maxHeartbeats 4000000 in
set_option maxRecDepth 100000 in
theorem c_fillJ (l : Launch) (dC : Nat → ClassId) (dI : Nat → Nat → Nat) (cB cI cJ cZ cQ : ClassId) (qA N : Nat) (yV : Int64) (fA : Nat → Int64) (sz : Nat) (hN : N < 2 ^ 31) : Met l yJ7_fill_d0a16 zs_c_fillJ ({ frames := 0, cells := 0, slots := 0, locals := 0 } : Room) (zPc [.ref qA, .long yV] (dC, dI) (zTY cB cI cJ cZ cQ) (ws_c_fillJ cB cI cJ cZ cQ qA N yV fA) sz) (va_Qv (fun (_ : Unit) => True) (fun (_ : Unit) (t : State) => ∃ (fA2 : Nat → Int64), va_P (dC, dI) vwCl [(qA, .inl (cJ, N, .inr (.inl fA2)))] t.heap ∧ va_D (va_A (ws_c_fillJ cB cI cJ cZ cQ qA N yV fA) sz) [(qA, .inl (cJ, N, .inr (.inl fA2)))]) (va_A (ws_c_fillJ cB cI cJ cZ cQ qA N yV fA) sz)) 0 0 (va_A (ws_c_fillJ cB cI cJ cZ cQ qA N yV fA) sz) := by
  refine Met.ofW (cc := cJ7_fill_d0a16) (maxL := 5) (ret := none) (by decide) rfl ?_
  intro p e s m args below meth c s₁ B hml hv
  obtain ⟨rfl, hsz, hP0, hK, hO, hD0⟩ := hv
  have hx := B.exec
  have hb := B.bytes
  have hr := B.returns
  have hts := atoms_spec (ws := zs_c_fillJ) B.pre
  have hown : s.vm.findClass RJ7 = some m.cls := findClass_of_methodNamed B.named
  have hlocks := B.notSynchronized
  subst hsz
  have hD8 := hD0.self (sz := s.heap.size)
  generalize hAe : va_A (ws_c_fillJ cB cI cJ cZ cQ qA N yV fA) s.heap.size = A at hD8 ⊢
  have hA : ∀ q : Nat, s.heap.size ≤ q → A q := fun q h => by rw [← hAe]; exact Or.inr h
  have hS : va_S A s.heap s.heap [] := va_S.rf
  have hP : va_P (dC, dI) vwCl [(qA, .inl (cJ, N, .inr (.inl fA)))] s.heap := hP0
  have hD : va_D A [(qA, .inl (cJ, N, .inr (.inl fA)))] := hD8
  have hl := lv_entry ([.ref qA, .long yV]) (n := 5) (Nat.le_of_ble_eq_true rfl)
  rw [lg_entry_eq]
  generalize (lg_sl ([.ref qA, .long yV]) ++ List.replicate (5 - (lg_sl ([.ref qA, .long yV])).length) Slot.unset).toArray = ls at hl ⊢
  have hl : lv_has ls 5 [(0, .ref qA), (1, .long yV)] := hl
  clear hP0 hD8 hD0
  refine zH0 (fun H hP hS => ?_) hP hS
  refine lv_iconst (v := 0) hx hb dJ7_fill_d0a16_0 (by decide) ?_
  refine lv_istore_n (lv' := [(3, .int 0), (0, .ref qA), (1, .long yV)]) hx hb dJ7_fill_d0a16_1 rfl hl (by decide) rfl (fun ls hl => ?_)
  refine lv_aload_n hx hb dJ7_fill_d0a16_2 rfl (lv_at hl 1 rfl) ?_
  refine va_alen hx hb hK hP 0 2 rfl rfl (v := (nI N)) rfl dJ7_fill_d0a16_3 ?_
  refine lv_istore (lv' := [(4, .int (nI N)), (3, .int 0), (0, .ref qA), (1, .long yV)]) hx hb dJ7_fill_d0a16_4 hl (by decide) rfl (fun ls hl => ?_)
  have loop4 : ∀ (n2 k1 : Nat), k1 + n2 = N → ∀ (g3 : Nat → Int64), ∀ (H : Heap) (locs : List Loc) (ls : Array Slot), va_P (dC, dI) vwCl [(qA, .inl (cJ, N, .inr (.inl g3)))] H → va_D A [(qA, .inl (cJ, N, .inr (.inl g3)))] → va_S A s.heap H locs → lv_has ls 5 [(3, .int (nI k1)), (4, .int (nI N)), (0, .ref qA), (1, .long yV)] → W p l e (headSpec zs_c_fillJ ({ frames := 0, cells := 0, slots := 0, locals := 0 } : Room)).room s m ([.ref qA, .long yV] : List Value).toArray below meth c H locs 0 0 (MQ below (va_Qv (fun (_ : Unit) => True) (fun (_ : Unit) (t : State) => ∃ (fA2 : Nat → Int64), va_P (dC, dI) vwCl [(qA, .inl (cJ, N, .inr (.inl fA2)))] t.heap ∧ va_D A [(qA, .inl (cJ, N, .inr (.inl fA2)))]) A) ([.ref qA, .long yV] : List Value).toArray s 0 0 A) (F0 m 6 ls []) := by
    intro n2
    induction n2 with
    | zero =>
      intro k1 hk g3 H locs ls hP hD hS hl
      rw [show k1 = N from by omega] at hl
      refine lv_iload_n hx hb dJ7_fill_d0a16_6 rfl (lv_at hl 0 rfl) ?_
      refine lv_iload hx hb dJ7_fill_d0a16_7 (lv_at hl 1 rfl) ?_
      refine lv_icmp_ge (tgt := 22) hx hb dJ7_fill_d0a16_9 (by decide) (fun _ => ?_) (fun zc => absurd (nI_le (Nat.le_refl _) hN) zc)
      have hP9 : va_P (dC, dI) vwCl [(qA, .inl (cJ, N, .inr (.inl g3)))] H := hP.sub [0] rfl
      have hD9 : va_D A [(qA, .inl (cJ, N, .inr (.inl g3)))] := hD.sub [0] (by decide) rfl
      exact W.vret hx hb hr (fun t ht hW => ⟨⟨(), rfl, trivial, ⟨g3, by rw [ht]; exact hP9, hD9⟩⟩, hS.F ht⟩) hS.2.2 dJ7_fill_d0a16_22
    | succ n2 ih =>
      intro k1 hk g3 H locs ls hP hD hS hl
      refine lv_iload_n hx hb dJ7_fill_d0a16_6 rfl (lv_at hl 0 rfl) ?_
      refine lv_iload hx hb dJ7_fill_d0a16_7 (lv_at hl 1 rfl) ?_
      refine lv_icmp_ge (tgt := 22) hx hb dJ7_fill_d0a16_9 (by decide) (fun zc => absurd zc (nI_ge (by omega) hN)) (fun _ => ?_)
      refine lv_aload_n hx hb dJ7_fill_d0a16_12 rfl (lv_at hl 2 rfl) ?_
      refine lv_iload_n hx hb dJ7_fill_d0a16_13 rfl (lv_at hl 0 rfl) ?_
      refine lv_lload_n hx hb dJ7_fill_d0a16_14 rfl (lv_at hl 3 rfl) ?_
      refine z_last hx hb hK hP hD hS 0 2 rfl rfl (vp_in_nI (by omega) (by first | decide | omega)) dJ7_fill_d0a16_15 (fun H locs g5 hg5 hP hD hS => ?_)
      have hP : va_P (dC, dI) vwCl [(qA, .inl (cJ, N, .inr (.inl g5)))] H := hP
      have hD : va_D A [(qA, .inl (cJ, N, .inr (.inl g5)))] := hD
      refine lv_iinc (v := (nI (k1 + 1))) (lv' := [(3, .int (nI (k1 + 1))), (4, .int (nI N)), (0, .ref qA), (1, .long yV)]) hx hb dJ7_fill_d0a16_16 hl (k := 0) rfl (nI_1 _) (by decide) rfl (fun ls hl => ?_)
      refine lv_goto (tgt := 6) hx hb dJ7_fill_d0a16_19 (by decide) ?_
      exact ih (k1 + 1) (by omega) _ _ _ _ hP hD hS (lv_sub hl [0, 1, 2, 3] rfl)
  exact loop4 N 0 (by omega) _ _ _ _ hP hD hS (by rw [nI_0]; exact lv_sub hl [1, 0, 2, 3] rfl)

def zs_c_fillI : List Cond := .code yJ7_fill_53178 cJ7_fill_53178 4 none :: (([] : List Cond) ++ [])
theorem gd_c_fillI : (zs_c_fillI).all goodWord = true := by decide +kernel
abbrev ws_c_fillI (cB cI cJ cZ cQ : ClassId) (qA N : Nat) (iV : Int32) (fA : Nat → Int32) : va_W := [(qA, .inl (cI, N, .inl fA))]
set_option maxHeartbeats 4000000 in
set_option maxRecDepth 100000 in
theorem c_fillI (l : Launch) (dC : Nat → ClassId) (dI : Nat → Nat → Nat) (cB cI cJ cZ cQ : ClassId) (qA N : Nat) (iV : Int32) (fA : Nat → Int32) (sz : Nat) (hN : N < 2 ^ 31) : Met l yJ7_fill_53178 zs_c_fillI ({ frames := 0, cells := 0, slots := 0, locals := 0 } : Room) (zPc [.ref qA, .int iV] (dC, dI) (zTY cB cI cJ cZ cQ) (ws_c_fillI cB cI cJ cZ cQ qA N iV fA) sz) (va_Qv (fun (_ : Unit) => True) (fun (_ : Unit) (t : State) => ∃ (fA2 : Nat → Int32), va_P (dC, dI) vwCl [(qA, .inl (cI, N, .inl fA2))] t.heap ∧ va_D (va_A (ws_c_fillI cB cI cJ cZ cQ qA N iV fA) sz) [(qA, .inl (cI, N, .inl fA2))]) (va_A (ws_c_fillI cB cI cJ cZ cQ qA N iV fA) sz)) 0 0 (va_A (ws_c_fillI cB cI cJ cZ cQ qA N iV fA) sz) := by
  refine Met.ofW (cc := cJ7_fill_53178) (maxL := 4) (ret := none) (by decide) rfl ?_
  intro p e s m args below meth c s₁ B hml hv
  obtain ⟨rfl, hsz, hP0, hK, hO, hD0⟩ := hv
  have hx := B.exec
  have hb := B.bytes
  have hr := B.returns
  have hts := atoms_spec (ws := zs_c_fillI) B.pre
  have hown : s.vm.findClass RJ7 = some m.cls := findClass_of_methodNamed B.named
  have hlocks := B.notSynchronized
  subst hsz
  have hD8 := hD0.self (sz := s.heap.size)
  generalize hAe : va_A (ws_c_fillI cB cI cJ cZ cQ qA N iV fA) s.heap.size = A at hD8 ⊢
  have hA : ∀ q : Nat, s.heap.size ≤ q → A q := fun q h => by rw [← hAe]; exact Or.inr h
  have hS : va_S A s.heap s.heap [] := va_S.rf
  have hP : va_P (dC, dI) vwCl [(qA, .inl (cI, N, .inl fA))] s.heap := hP0
  have hD : va_D A [(qA, .inl (cI, N, .inl fA))] := hD8
  have hl := lv_entry ([.ref qA, .int iV]) (n := 4) (Nat.le_of_ble_eq_true rfl)
  rw [lg_entry_eq]
  generalize (lg_sl ([.ref qA, .int iV]) ++ List.replicate (4 - (lg_sl ([.ref qA, .int iV])).length) Slot.unset).toArray = ls at hl ⊢
  have hl : lv_has ls 4 [(0, .ref qA), (1, .int iV)] := hl
  clear hP0 hD8 hD0
  refine zH0 (fun H hP hS => ?_) hP hS
  refine lv_iconst (v := 0) hx hb dJ7_fill_53178_0 (by decide) ?_
  refine lv_istore_n (lv' := [(2, .int 0), (0, .ref qA), (1, .int iV)]) hx hb dJ7_fill_53178_1 rfl hl (by decide) rfl (fun ls hl => ?_)
  refine lv_aload_n hx hb dJ7_fill_53178_2 rfl (lv_at hl 1 rfl) ?_
  refine va_alen hx hb hK hP 0 1 rfl rfl (v := (nI N)) rfl dJ7_fill_53178_3 ?_
  refine lv_istore_n (lv' := [(3, .int (nI N)), (2, .int 0), (0, .ref qA), (1, .int iV)]) hx hb dJ7_fill_53178_4 rfl hl (by decide) rfl (fun ls hl => ?_)
  have loop4 : ∀ (n2 k1 : Nat), k1 + n2 = N → ∀ (g3 : Nat → Int32), ∀ (H : Heap) (locs : List Loc) (ls : Array Slot), va_P (dC, dI) vwCl [(qA, .inl (cI, N, .inl g3))] H → va_D A [(qA, .inl (cI, N, .inl g3))] → va_S A s.heap H locs → lv_has ls 4 [(2, .int (nI k1)), (3, .int (nI N)), (0, .ref qA), (1, .int iV)] → W p l e (headSpec zs_c_fillI ({ frames := 0, cells := 0, slots := 0, locals := 0 } : Room)).room s m ([.ref qA, .int iV] : List Value).toArray below meth c H locs 0 0 (MQ below (va_Qv (fun (_ : Unit) => True) (fun (_ : Unit) (t : State) => ∃ (fA2 : Nat → Int32), va_P (dC, dI) vwCl [(qA, .inl (cI, N, .inl fA2))] t.heap ∧ va_D A [(qA, .inl (cI, N, .inl fA2))]) A) ([.ref qA, .int iV] : List Value).toArray s 0 0 A) (F0 m 5 ls []) := by
    intro n2
    induction n2 with
    | zero =>
      intro k1 hk g3 H locs ls hP hD hS hl
      rw [show k1 = N from by omega] at hl
      refine lv_iload_n hx hb dJ7_fill_53178_5 rfl (lv_at hl 0 rfl) ?_
      refine lv_iload_n hx hb dJ7_fill_53178_6 rfl (lv_at hl 1 rfl) ?_
      refine lv_icmp_ge (tgt := 20) hx hb dJ7_fill_53178_7 (by decide) (fun _ => ?_) (fun zc => absurd (nI_le (Nat.le_refl _) hN) zc)
      have hP9 : va_P (dC, dI) vwCl [(qA, .inl (cI, N, .inl g3))] H := hP.sub [0] rfl
      have hD9 : va_D A [(qA, .inl (cI, N, .inl g3))] := hD.sub [0] (by decide) rfl
      exact W.vret hx hb hr (fun t ht hW => ⟨⟨(), rfl, trivial, ⟨g3, by rw [ht]; exact hP9, hD9⟩⟩, hS.F ht⟩) hS.2.2 dJ7_fill_53178_20
    | succ n2 ih =>
      intro k1 hk g3 H locs ls hP hD hS hl
      refine lv_iload_n hx hb dJ7_fill_53178_5 rfl (lv_at hl 0 rfl) ?_
      refine lv_iload_n hx hb dJ7_fill_53178_6 rfl (lv_at hl 1 rfl) ?_
      refine lv_icmp_ge (tgt := 20) hx hb dJ7_fill_53178_7 (by decide) (fun zc => absurd zc (nI_ge (by omega) hN)) (fun _ => ?_)
      refine lv_aload_n hx hb dJ7_fill_53178_10 rfl (lv_at hl 2 rfl) ?_
      refine lv_iload_n hx hb dJ7_fill_53178_11 rfl (lv_at hl 0 rfl) ?_
      refine lv_iload_n hx hb dJ7_fill_53178_12 rfl (lv_at hl 3 rfl) ?_
      refine z_iast hx hb hK hP hD hS 0 1 rfl rfl (vp_in_nI (by omega) (by first | decide | omega)) dJ7_fill_53178_13 (fun H locs g5 hg5 hP hD hS => ?_)
      have hP : va_P (dC, dI) vwCl [(qA, .inl (cI, N, .inl g5))] H := hP
      have hD : va_D A [(qA, .inl (cI, N, .inl g5))] := hD
      refine lv_iinc (v := (nI (k1 + 1))) (lv' := [(2, .int (nI (k1 + 1))), (3, .int (nI N)), (0, .ref qA), (1, .int iV)]) hx hb dJ7_fill_53178_14 hl (k := 0) rfl (nI_1 _) (by decide) rfl (fun ls hl => ?_)
      refine lv_goto (tgt := 5) hx hb dJ7_fill_53178_17 (by decide) ?_
      exact ih (k1 + 1) (by omega) _ _ _ _ hP hD hS (lv_sub hl [0, 1, 2, 3] rfl)
  exact loop4 N 0 (by omega) _ _ _ _ hP hD hS (by rw [nI_0]; exact lv_sub hl [1, 0, 2, 3] rfl)

