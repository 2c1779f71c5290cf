def zs_m_feed : List Cond := .code yX12_feed cX12_feed 6 (some .int) :: (([.fieldLink RX12 204 "LanternHouseModel" "taped" "I", .methodLink RX12 207 yX12_put, .instanceMethod yX12_put, .selects RX12 yX12_put yX12_put, .initialized RX12] : List Cond) ++ (zs_m_put0 ++ (zs_m_put4 ++ (zs_m_put8 ++ (zs_m_put12 ++ (zs_m_put16 ++ (wsX120 ++ [])))))))
theorem gd_m_feed : (zs_m_feed).all goodWord = true := by decide +kernel
theorem in_m_feed_12 : ∀ w ∈ wsX120, w ∈ zs_m_feed := fun w h => List.mem_cons_of_mem _ (List.mem_append_right _ (List.mem_append_right _ (List.mem_append_right _ (List.mem_append_right _ (List.mem_append_right _ (List.mem_append_right _ (List.mem_append_left _ h)))))))
theorem g_m_feed_m_put0_207 : GoodIn zs_m_feed (wsV RX12 207 RX12 yX12_put zs_m_put0) := goodIn_app (goodIn_of _ (by decide +kernel)) (goodIn_sub (fun w h => List.mem_cons_of_mem _ (List.mem_append_right _ (List.mem_append_left _ h))) gd_m_put0)
theorem g_m_feed_m_put4_207 : GoodIn zs_m_feed (wsV RX12 207 RX12 yX12_put zs_m_put4) := goodIn_app (goodIn_of _ (by decide +kernel)) (goodIn_sub (fun w h => List.mem_cons_of_mem _ (List.mem_append_right _ (List.mem_append_right _ (List.mem_append_left _ h)))) gd_m_put4)
theorem g_m_feed_m_put8_207 : GoodIn zs_m_feed (wsV RX12 207 RX12 yX12_put zs_m_put8) := goodIn_app (goodIn_of _ (by decide +kernel)) (goodIn_sub (fun w h => List.mem_cons_of_mem _ (List.mem_append_right _ (List.mem_append_right _ (List.mem_append_right _ (List.mem_append_left _ h))))) gd_m_put8)
theorem g_m_feed_m_put12_207 : GoodIn zs_m_feed (wsV RX12 207 RX12 yX12_put zs_m_put12) := goodIn_app (goodIn_of _ (by decide +kernel)) (goodIn_sub (fun w h => List.mem_cons_of_mem _ (List.mem_append_right _ (List.mem_append_right _ (List.mem_append_right _ (List.mem_append_right _ (List.mem_append_left _ h)))))) gd_m_put12)
theorem g_m_feed_m_put16_207 : GoodIn zs_m_feed (wsV RX12 207 RX12 yX12_put zs_m_put16) := goodIn_app (goodIn_of _ (by decide +kernel)) (goodIn_sub (fun w h => List.mem_cons_of_mem _ (List.mem_append_right _ (List.mem_append_right _ (List.mem_append_right _ (List.mem_append_right _ (List.mem_append_right _ (List.mem_append_left _ h))))))) gd_m_put16)
abbrev ws_m_feed (cB cI cJ cZ cQ : ClassId) (aM qB : Nat) (i0 : Int32) (i1 : Int32) (i2 : Int32) (i3 : Int32) (i4 : Int32) (fB : Nat → Int32) (fsaM : List Value) : va_W := [(aM, .inr (12, fsaM)), (qB, .inl (cB, 3000, .inl fB))]
set_option maxHeartbeats 4000000 in
set_option maxRecDepth 100000 in
theorem m_feed (l : Launch) (dC : Nat → ClassId) (dI : Nat → Nat → Nat) (cB cI cJ cZ cQ : ClassId) (aM qB : Nat) (i0 : Int32) (i1 : Int32) (i2 : Int32) (i3 : Int32) (i4 : Int32) (fB : Nat → Int32) (fsaM : List Value) (sz : Nat) (hlaM : fsaM.length = 87) (haM_1 : fsaM[1]? = some (.ref qB)) (haM_2 : fsaM[2]? = some (.int 0)) : Met l yX12_feed zs_m_feed ({ frames := 1, cells := 0, slots := 0, locals := 22 } : Room) (zPc [.ref aM, .int i0, .int i1, .int i2, .int i3, .int i4] (dC, dI) (zTY cB cI cJ cZ cQ) (ws_m_feed cB cI cJ cZ cQ aM qB i0 i1 i2 i3 i4 fB fsaM) sz) (va_Qi (fun (zr : Int32) (_ : Unit) => zr = 20) (fun (_ : Unit) (_ : State) => True) (va_A (ws_m_feed cB cI cJ cZ cQ aM qB i0 i1 i2 i3 i4 fB fsaM) sz)) 0 0 (va_A (ws_m_feed cB cI cJ cZ cQ aM qB i0 i1 i2 i3 i4 fB fsaM) sz) := by
  refine Met.ofW (cc := cX12_feed) (maxL := 6) (ret := (some .int)) (by decide) rfl ?_
  intro p e s m args below meth c s₁ B hml hv
  obtain ⟨rfl, hsz, hP0, hK, hO, hD0⟩ := hv
  have hx := B.exec
  have hb := B.bytes
  have hr := B.returns
  have hts := atoms_spec (ws := zs_m_feed) B.pre
  have hown : s.vm.findClass RX12 = some m.cls := findClass_of_methodNamed B.named
  have hlocks := B.notSynchronized
  subst hsz
  have hD8 := hD0.self (sz := s.heap.size)
  generalize hAe : va_A (ws_m_feed cB cI cJ cZ cQ aM qB i0 i1 i2 i3 i4 fB fsaM) s.heap.size = A at hD8 ⊢
  have hA : ∀ q : Nat, s.heap.size ≤ q → A q := fun q h => by rw [← hAe]; exact Or.inr h
  have hS : va_S A s.heap s.heap [] := va_S.rf
  have hP : va_P (dC, dI) vwCl [(aM, .inr (12, fsaM)), (qB, .inl (cB, 3000, .inl fB))] s.heap := hP0
  have hD : va_D A [(aM, .inr (12, fsaM)), (qB, .inl (cB, 3000, .inl fB))] := hD8
  have hl := lv_entry ([.ref aM, .int i0, .int i1, .int i2, .int i3, .int i4]) (n := 6) (Nat.le_of_ble_eq_true rfl)
  rw [lg_entry_eq]
  generalize (lg_sl ([.ref aM, .int i0, .int i1, .int i2, .int i3, .int i4]) ++ List.replicate (6 - (lg_sl ([.ref aM, .int i0, .int i1, .int i2, .int i3, .int i4])).length) Slot.unset).toArray = ls at hl ⊢
  have hl : lv_has ls 6 [(0, .ref aM), (1, .int i0), (2, .int i1), (3, .int i2), (4, .int i3), (5, .int i4)] := hl
  clear hP0 hD8 hD0
  refine zH0 (fun H hP hS => ?_) hP hS
  refine lv_aload_n hx hb dX12_feed_0 rfl (lv_at hl 0 rfl) ?_
  refine va_get (D := (dC, dI)) (ci := 12) (v := .int 0) (C := RX12) (T := TX12) (N := 87) hx hb hts in_m_feed_12 hown hK hP 0 rfl rfl 2 (by decide) (hts (.fieldLink RX12 204 "LanternHouseModel" "taped" "I") (by decide +kernel)) (fun _ h9 => h9) haM_2 dX12_feed_1 ?_
  refine lv_bipush (v := 20) hx hb dX12_feed_4 (by decide) ?_
  refine lv_iadd hx hb dX12_feed_6 ?_
  refine lv_topi (fun x1 ex1 => ?_)
  obtain rfl : x1 = 20 := ex1.trans (by decide)
  refine lv_sipush (v := 3000) hx hb dX12_feed_7 (by decide) ?_
  refine lv_icmp_le (tgt := 15) hx hb dX12_feed_10 (by decide) (fun _ => ?_) (fun zc => absurd zc (by decide))
  refine lv_aload_n hx hb dX12_feed_15 rfl (lv_at hl 0 rfl) ?_
  refine lv_iload_n hx hb dX12_feed_16 rfl (lv_at hl 1 rfl) ?_
  have hPc : va_P (dC, dI) vwCl (ws_m_put0 cB cI cJ cZ cQ aM qB i0 fB fsaM) H := hP.sub [0, 1] rfl
  have hDc := hD.sub (ws' := (ws_m_put0 cB cI cJ cZ cQ aM qB i0 fB fsaM)) [0, 1] (by decide) rfl
  have hFc := va_free (wc := (ws_m_put0 cB cI cJ cZ cQ aM qB i0 fB fsaM)) hD hS hA [0, 1] rfl
  refine va_callv (va_runV (As := [.int i0]) (rest := []) ⟨hx, hb, hml, hown, hts⟩ (m_put0 l dC dI cB cI cJ cZ cQ aM qB i0 fB fsaM H.size hlaM haM_1 haM_2) (cwV 1 hts g_m_feed_m_put0_207 rfl rfl rfl (by decide +kernel) ⟨Nat.le_of_ble_eq_true rfl, Nat.le_of_ble_eq_true rfl⟩) ⟨zFB, va_recv hK hP (ci := 12) (q0 := 0) rfl rfl, fun U hU hW => zUp hU hW hPc hK hO hDc⟩ rfl rfl hl.1 rfl (lv_room (Nat.le_of_ble_eq_true rfl)) dX12_feed_17 ⟨Nat.le_of_ble_eq_true rfl, Nat.le_of_ble_eq_true rfl⟩) hS (fun q _ h => hFc q h) hFc (fun u t H1 locs ht hvm hw3 hB hz1 hk1 hS => ?_)
  obtain ⟨fB24, gs5, hgl6, hgf7, hgk8, hP1, hD1⟩ := hB
  rw [ht] at hP1
  obtain ⟨hP, hD⟩ := va_join (wr := []) (w1 := [(aM, .inr (12, gs5)), (qB, .inl (cB, 3000, .inl fB24))]) hP hD [0, 1] [] rfl rfl (by decide) (by decide) hk1 hFc hP1 hD1
  generalize H1 = H at hP hS ⊢
  have hP : va_P (dC, dI) vwCl [(aM, .inr (12, gs5)), (qB, .inl (cB, 3000, .inl fB24))] H := hP
  have hD : va_D A [(aM, .inr (12, gs5)), (qB, .inl (cB, 3000, .inl fB24))] := hD
  refine lv_aload_n hx hb dX12_feed_20 rfl (lv_at hl 0 rfl) ?_
  refine lv_iload_n hx hb dX12_feed_21 rfl (lv_at hl 2 rfl) ?_
  have hPc : va_P (dC, dI) vwCl (ws_m_put4 cB cI cJ cZ cQ aM qB i1 fB24 gs5) H := hP.sub [0, 1] rfl
  have hDc := hD.sub (ws' := (ws_m_put4 cB cI cJ cZ cQ aM qB i1 fB24 gs5)) [0, 1] (by decide) rfl
  have hFc := va_free (wc := (ws_m_put4 cB cI cJ cZ cQ aM qB i1 fB24 gs5)) hD hS hA [0, 1] rfl
  refine va_callv (va_runV (As := [.int i1]) (rest := []) ⟨hx, hb, hml, hown, hts⟩ (m_put4 l dC dI cB cI cJ cZ cQ aM qB i1 fB24 gs5 H.size hgl6 ((hgf7 1 (by decide)).trans haM_1) hgk8) (cwV 1 hts g_m_feed_m_put4_207 rfl rfl rfl (by decide +kernel) ⟨Nat.le_of_ble_eq_true rfl, Nat.le_of_ble_eq_true rfl⟩) ⟨zFB, va_recv hK hP (ci := 12) (q0 := 0) rfl rfl, fun U hU hW => zUp hU hW hPc hK hO hDc⟩ rfl rfl hl.1 rfl (lv_room (Nat.le_of_ble_eq_true rfl)) dX12_feed_22 ⟨Nat.le_of_ble_eq_true rfl, Nat.le_of_ble_eq_true rfl⟩) hS (fun q _ h => hFc q h) hFc (fun u t H1 locs ht hvm hw10 hB hz1 hk1 hS => ?_)
  obtain ⟨fB211, gs12, hgl13, hgf14, hgk15, hP1, hD1⟩ := hB
  rw [ht] at hP1
  obtain ⟨hP, hD⟩ := va_join (wr := []) (w1 := [(aM, .inr (12, gs12)), (qB, .inl (cB, 3000, .inl fB211))]) hP hD [0, 1] [] rfl rfl (by decide) (by decide) hk1 hFc hP1 hD1
  generalize H1 = H at hP hS ⊢
  have hP : va_P (dC, dI) vwCl [(aM, .inr (12, gs12)), (qB, .inl (cB, 3000, .inl fB211))] H := hP
  have hD : va_D A [(aM, .inr (12, gs12)), (qB, .inl (cB, 3000, .inl fB211))] := hD
  refine lv_aload_n hx hb dX12_feed_25 rfl (lv_at hl 0 rfl) ?_
  refine lv_iload_n hx hb dX12_feed_26 rfl (lv_at hl 3 rfl) ?_
  have hPc : va_P (dC, dI) vwCl (ws_m_put8 cB cI cJ cZ cQ aM qB i2 fB211 gs12) H := hP.sub [0, 1] rfl
  have hDc := hD.sub (ws' := (ws_m_put8 cB cI cJ cZ cQ aM qB i2 fB211 gs12)) [0, 1] (by decide) rfl
  have hFc := va_free (wc := (ws_m_put8 cB cI cJ cZ cQ aM qB i2 fB211 gs12)) hD hS hA [0, 1] rfl
  refine va_callv (va_runV (As := [.int i2]) (rest := []) ⟨hx, hb, hml, hown, hts⟩ (m_put8 l dC dI cB cI cJ cZ cQ aM qB i2 fB211 gs12 H.size hgl13 ((hgf14 1 (by decide)).trans ((hgf7 1 (by decide)).trans haM_1)) hgk15) (cwV 1 hts g_m_feed_m_put8_207 rfl rfl rfl (by decide +kernel) ⟨Nat.le_of_ble_eq_true rfl, Nat.le_of_ble_eq_true rfl⟩) ⟨zFB, va_recv hK hP (ci := 12) (q0 := 0) rfl rfl, fun U hU hW => zUp hU hW hPc hK hO hDc⟩ rfl rfl hl.1 rfl (lv_room (Nat.le_of_ble_eq_true rfl)) dX12_feed_27 ⟨Nat.le_of_ble_eq_true rfl, Nat.le_of_ble_eq_true rfl⟩) hS (fun q _ h => hFc q h) hFc (fun u t H1 locs ht hvm hw17 hB hz1 hk1 hS => ?_)
  obtain ⟨fB218, gs19, hgl20, hgf21, hgk22, hP1, hD1⟩ := hB
  rw [ht] at hP1
  obtain ⟨hP, hD⟩ := va_join (wr := []) (w1 := [(aM, .inr (12, gs19)), (qB, .inl (cB, 3000, .inl fB218))]) hP hD [0, 1] [] rfl rfl (by decide) (by decide) hk1 hFc hP1 hD1
  generalize H1 = H at hP hS ⊢
  have hP : va_P (dC, dI) vwCl [(aM, .inr (12, gs19)), (qB, .inl (cB, 3000, .inl fB218))] H := hP
  have hD : va_D A [(aM, .inr (12, gs19)), (qB, .inl (cB, 3000, .inl fB218))] := hD
  refine lv_aload_n hx hb dX12_feed_30 rfl (lv_at hl 0 rfl) ?_
  refine lv_iload hx hb dX12_feed_31 (lv_at hl 4 rfl) ?_
  have hPc : va_P (dC, dI) vwCl (ws_m_put12 cB cI cJ cZ cQ aM qB i3 fB218 gs19) H := hP.sub [0, 1] rfl
  have hDc := hD.sub (ws' := (ws_m_put12 cB cI cJ cZ cQ aM qB i3 fB218 gs19)) [0, 1] (by decide) rfl
  have hFc := va_free (wc := (ws_m_put12 cB cI cJ cZ cQ aM qB i3 fB218 gs19)) hD hS hA [0, 1] rfl
  refine va_callv (va_runV (As := [.int i3]) (rest := []) ⟨hx, hb, hml, hown, hts⟩ (m_put12 l dC dI cB cI cJ cZ cQ aM qB i3 fB218 gs19 H.size hgl20 ((hgf21 1 (by decide)).trans ((hgf14 1 (by decide)).trans ((hgf7 1 (by decide)).trans haM_1))) hgk22) (cwV 1 hts g_m_feed_m_put12_207 rfl rfl rfl (by decide +kernel) ⟨Nat.le_of_ble_eq_true rfl, Nat.le_of_ble_eq_true rfl⟩) ⟨zFB, va_recv hK hP (ci := 12) (q0 := 0) rfl rfl, fun U hU hW => zUp hU hW hPc hK hO hDc⟩ rfl rfl hl.1 rfl (lv_room (Nat.le_of_ble_eq_true rfl)) dX12_feed_33 ⟨Nat.le_of_ble_eq_true rfl, Nat.le_of_ble_eq_true rfl⟩) hS (fun q _ h => hFc q h) hFc (fun u t H1 locs ht hvm hw24 hB hz1 hk1 hS => ?_)
  obtain ⟨fB225, gs26, hgl27, hgf28, hgk29, hP1, hD1⟩ := hB
  rw [ht] at hP1
  obtain ⟨hP, hD⟩ := va_join (wr := []) (w1 := [(aM, .inr (12, gs26)), (qB, .inl (cB, 3000, .inl fB225))]) hP hD [0, 1] [] rfl rfl (by decide) (by decide) hk1 hFc hP1 hD1
  generalize H1 = H at hP hS ⊢
  have hP : va_P (dC, dI) vwCl [(aM, .inr (12, gs26)), (qB, .inl (cB, 3000, .inl fB225))] H := hP
  have hD : va_D A [(aM, .inr (12, gs26)), (qB, .inl (cB, 3000, .inl fB225))] := hD
  refine lv_aload_n hx hb dX12_feed_36 rfl (lv_at hl 0 rfl) ?_
  refine lv_iload hx hb dX12_feed_37 (lv_at hl 5 rfl) ?_
  have hPc : va_P (dC, dI) vwCl (ws_m_put16 cB cI cJ cZ cQ aM qB i4 fB225 gs26) H := hP.sub [0, 1] rfl
  have hDc := hD.sub (ws' := (ws_m_put16 cB cI cJ cZ cQ aM qB i4 fB225 gs26)) [0, 1] (by decide) rfl
  have hFc := va_free (wc := (ws_m_put16 cB cI cJ cZ cQ aM qB i4 fB225 gs26)) hD hS hA [0, 1] rfl
  refine va_callv (va_runV (As := [.int i4]) (rest := []) ⟨hx, hb, hml, hown, hts⟩ (m_put16 l dC dI cB cI cJ cZ cQ aM qB i4 fB225 gs26 H.size hgl27 ((hgf28 1 (by decide)).trans ((hgf21 1 (by decide)).trans ((hgf14 1 (by decide)).trans ((hgf7 1 (by decide)).trans haM_1)))) hgk29) (cwV 1 hts g_m_feed_m_put16_207 rfl rfl rfl (by decide +kernel) ⟨Nat.le_of_ble_eq_true rfl, Nat.le_of_ble_eq_true rfl⟩) ⟨zFB, va_recv hK hP (ci := 12) (q0 := 0) rfl rfl, fun U hU hW => zUp hU hW hPc hK hO hDc⟩ rfl rfl hl.1 rfl (lv_room (Nat.le_of_ble_eq_true rfl)) dX12_feed_39 ⟨Nat.le_of_ble_eq_true rfl, Nat.le_of_ble_eq_true rfl⟩) hS (fun q _ h => hFc q h) hFc (fun u t H1 locs ht hvm hw31 hB hz1 hk1 hS => ?_)
  obtain ⟨fB232, gs33, hgl34, hgf35, hgk36, hP1, hD1⟩ := hB
  rw [ht] at hP1
  obtain ⟨hP, hD⟩ := va_join (wr := []) (w1 := [(aM, .inr (12, gs33)), (qB, .inl (cB, 3000, .inl fB232))]) hP hD [0, 1] [] rfl rfl (by decide) (by decide) hk1 hFc hP1 hD1
  generalize H1 = H at hP hS ⊢
  have hP : va_P (dC, dI) vwCl [(aM, .inr (12, gs33)), (qB, .inl (cB, 3000, .inl fB232))] H := hP
  have hD : va_D A [(aM, .inr (12, gs33)), (qB, .inl (cB, 3000, .inl fB232))] := hD
  refine lv_aload_n hx hb dX12_feed_42 rfl (lv_at hl 0 rfl) ?_
  refine va_get (D := (dC, dI)) (ci := 12) (v := .int 20) (C := RX12) (T := TX12) (N := 87) hx hb hts in_m_feed_12 hown hK hP 0 rfl rfl 2 (by decide) (hts (.fieldLink RX12 204 "LanternHouseModel" "taped" "I") (by decide +kernel)) (fun _ h9 => h9) hgk36 dX12_feed_43 ?_
  exact W.iret (v := 20) hx hb hr (fun t ht hW => ⟨⟨20, (), rfl, rfl, trivial⟩, hS.F ht⟩) hS.2.2 dX12_feed_46

def zs_m_back : List Cond := .code yX12_back cX12_back 2 (some .int) :: (([.fieldLink RX12 204 "LanternHouseModel" "taped" "I"] : List Cond) ++ (wsX120 ++ []))
theorem gd_m_back : (zs_m_back).all goodWord = true := by decide +kernel
theorem in_m_back_12 : ∀ w ∈ wsX120, w ∈ zs_m_back := fun w h => List.mem_cons_of_mem _ (List.mem_append_right _ (List.mem_append_left _ h))
abbrev ws_m_back (cB cI cJ cZ cQ : ClassId) (aM : Nat) (iN : Int32) (fsaM : List Value) : va_W := [(aM, .inr (12, fsaM))]
set_option maxHeartbeats 4000000 in
set_option maxRecDepth 100000 in
theorem m_back (l : Launch) (dC : Nat → ClassId) (dI : Nat → Nat → Nat) (cB cI cJ cZ cQ : ClassId) (aM : Nat) (iN : Int32) (fsaM : List Value) (sz : Nat) (hlaM : fsaM.length = 87) (haM_2 : fsaM[2]? = some (.int 0)) : Met l yX12_back zs_m_back ({ frames := 0, cells := 0, slots := 0, locals := 0 } : Room) (zPc [.ref aM, .int iN] (dC, dI) (zTY cB cI cJ cZ cQ) (ws_m_back cB cI cJ cZ cQ aM iN fsaM) sz) (va_Qi (fun (zr : Int32) (_ : Unit) => zr = sp_back iN) (fun (_ : Unit) (_ : State) => True) (va_A (ws_m_back cB cI cJ cZ cQ aM iN fsaM) sz)) 0 0 (va_A (ws_m_back cB cI cJ cZ cQ aM iN fsaM) sz) := by
  refine Met.ofW (cc := cX12_back) (maxL := 2) (ret := (some .int)) (by decide) rfl ?_
  intro p e s m args below meth c s₁ B hml hv
  obtain ⟨rfl, hsz, hP0, hK, hO, hD0⟩ := hv
  have hx := B.exec
  have hb := B.bytes
  have hr := B.returns
  have hts := atoms_spec (ws := zs_m_back) B.pre
  have hown : s.vm.findClass RX12 = some m.cls := findClass_of_methodNamed B.named
  have hlocks := B.notSynchronized
  subst hsz
  have hD8 := hD0.self (sz := s.heap.size)
  generalize hAe : va_A (ws_m_back cB cI cJ cZ cQ aM iN fsaM) s.heap.size = A at hD8 ⊢
  have hA : ∀ q : Nat, s.heap.size ≤ q → A q := fun q h => by rw [← hAe]; exact Or.inr h
  have hS : va_S A s.heap s.heap [] := va_S.rf
  have hP : va_P (dC, dI) vwCl [(aM, .inr (12, fsaM))] s.heap := hP0
  have hD : va_D A [(aM, .inr (12, fsaM))] := hD8
  have hl := lv_entry ([.ref aM, .int iN]) (n := 2) (Nat.le_of_ble_eq_true rfl)
  rw [lg_entry_eq]
  generalize (lg_sl ([.ref aM, .int iN]) ++ List.replicate (2 - (lg_sl ([.ref aM, .int iN])).length) Slot.unset).toArray = ls at hl ⊢
  have hl : lv_has ls 2 [(0, .ref aM), (1, .int iN)] := hl
  clear hP0 hD8 hD0
  refine zH0 (fun H hP hS => ?_) hP hS
  refine lv_iload_n hx hb dX12_back_0 rfl (lv_at hl 1 rfl) ?_
  refine lv_if_lt (tgt := 12) hx hb dX12_back_1 (by decide) (fun c1 => ?_) (fun c1 => ?_)
  · skip
    refine lv_iconst (v := (-1)) hx hb dX12_back_12 (by decide) ?_
    exact W.iret (v := (-1)) hx hb hr (fun t ht hW => ⟨⟨(-1), (), rfl, (by first | rfl | decide | (unfold sp_back; split <;> rename_i zh <;> first | rfl | (exfalso; simp only [Int32.lt_iff_toInt_lt, Int32.le_iff_toInt_le, ← Int32.toInt_inj, zi_m1, zi_0, zi_1, zi_6, zi_8, zi_M, zi_16, zi_20, zi_23, zi_24, zi_27, zi_29, zi_30, zi_40, zi_500, zi_700, zi_1000, true_and, and_true] at zh c1 <;> omega))), trivial⟩, hS.F ht⟩) hS.2.2 dX12_back_13
  · skip
    refine lv_iload_n hx hb dX12_back_4 rfl (lv_at hl 1 rfl) ?_
    refine lv_aload_n hx hb dX12_back_5 rfl (lv_at hl 0 rfl) ?_
    refine va_get (D := (dC, dI)) (ci := 12) (v := .int 0) (C := RX12) (T := TX12) (N := 87) hx hb hts in_m_back_12 hown hK hP 0 rfl rfl 2 (by decide) (hts (.fieldLink RX12 204 "LanternHouseModel" "taped" "I") (by decide +kernel)) (fun _ h9 => h9) haM_2 dX12_back_6 ?_
    refine lv_icmp_le (tgt := 14) hx hb dX12_back_9 (by decide) (fun c2 => ?_) (fun c2 => ?_)
    · skip
      have ziN : iN = 0 := z_inj (by simp only [Int32.lt_iff_toInt_lt, Int32.le_iff_toInt_le, ← Int32.toInt_inj, zi_m1, zi_0, zi_1, zi_6, zi_8, zi_M, zi_16, zi_20, zi_23, zi_24, zi_27, zi_29, zi_30, zi_40, zi_500, zi_700, zi_1000] at c1 c2 ⊢<;> omega)
      subst ziN
      refine lv_aload_n hx hb dX12_back_14 rfl (lv_at hl 0 rfl) ?_
      refine lv_dup hx hb dX12_back_15 rfl ?_
      refine va_get (D := (dC, dI)) (ci := 12) (v := .int 0) (C := RX12) (T := TX12) (N := 87) hx hb hts in_m_back_12 hown hK hP 0 rfl rfl 2 (by decide) (hts (.fieldLink RX12 204 "LanternHouseModel" "taped" "I") (by decide +kernel)) (fun _ h9 => h9) haM_2 dX12_back_16 ?_
      refine lv_iload_n hx hb dX12_back_19 rfl (lv_at hl 1 rfl) ?_
      refine lv_isub hx hb dX12_back_20 ?_
      refine lv_topi (fun x3 ex3 => ?_)
      obtain rfl : x3 = 0 := ex3.trans (by decide)
      refine va_put (D := (dC, dI)) (ci := 12) (v := .int 0) (ty := .int) (C := RX12) (T := TX12) (N := 87) hx hb hts in_m_back_12 tyX12 tyX12_ok nmX12 hown hK hP hD hS 0 rfl rfl 2 (by decide) (hts (.fieldLink RX12 204 "LanternHouseModel" "taped" "I") (by decide +kernel)) (fun _ h9 => h9) rfl (by decide +kernel) rfl rfl (by rw [hlaM]; decide) dX12_back_21 (fun H locs hP hD hS => ?_)
      have hP : va_P (dC, dI) vwCl [(aM, .inr (12, (List.set fsaM 2 (.int 0))))] H := hP
      have hD : va_D A [(aM, .inr (12, (List.set fsaM 2 (.int 0))))] := hD
      refine lv_aload_n hx hb dX12_back_24 rfl (lv_at hl 0 rfl) ?_
      refine va_get (D := (dC, dI)) (ci := 12) (v := .int 0) (C := RX12) (T := TX12) (N := 87) hx hb hts in_m_back_12 hown hK hP 0 rfl rfl 2 (by decide) (hts (.fieldLink RX12 204 "LanternHouseModel" "taped" "I") (by decide +kernel)) (fun _ h9 => h9) (zset_eq (by rw [hlaM]; decide)) dX12_back_25 ?_
      exact W.iret (v := 0) hx hb hr (fun t ht hW => ⟨⟨0, (), rfl, (by first | rfl | decide | (unfold sp_back; split <;> rename_i zh <;> first | rfl | (exfalso; simp only [Int32.lt_iff_toInt_lt, Int32.le_iff_toInt_le, ← Int32.toInt_inj, zi_m1, zi_0, zi_1, zi_6, zi_8, zi_M, zi_16, zi_20, zi_23, zi_24, zi_27, zi_29, zi_30, zi_40, zi_500, zi_700, zi_1000, true_and, and_true] at zh c1 c2 <;> omega))), trivial⟩, hS.F ht⟩) hS.2.2 dX12_back_28
    · skip
      refine lv_iconst (v := (-1)) hx hb dX12_back_12 (by decide) ?_
      exact W.iret (v := (-1)) hx hb hr (fun t ht hW => ⟨⟨(-1), (), rfl, (by first | rfl | decide | (unfold sp_back; split <;> rename_i zh <;> first | rfl | (exfalso; simp only [Int32.lt_iff_toInt_lt, Int32.le_iff_toInt_le, ← Int32.toInt_inj, zi_m1, zi_0, zi_1, zi_6, zi_8, zi_M, zi_16, zi_20, zi_23, zi_24, zi_27, zi_29, zi_30, zi_40, zi_500, zi_700, zi_1000, true_and, and_true] at zh c1 c2 <;> omega))), trivial⟩, hS.F ht⟩) hS.2.2 dX12_back_13

def zs_m_read : List Cond := .code yX12_read cX12_read 2 (some .int) :: (([.fieldLink RX12 204 "LanternHouseModel" "taped" "I", .fieldLink RX12 211 "LanternHouseModel" "size" "I", .fieldLink RX12 245 "LanternHouseModel" "t" "I", .fieldLink RX12 269 "LanternHouseModel" "open" "I", .fieldLink RX12 242 "LanternHouseModel" "fault" "I", .fieldLink RX12 251 "LanternHouseModel" "worst" "I", .fieldLink RX12 272 "LanternHouseModel" "live" "I", .fieldLink RX12 275 "LanternHouseModel" "side" "I", .fieldLink RX12 40 "LanternHouseModel" "lectures" "[I", .fieldLink RX12 80 "LanternHouseModel" "relations" "[I", .fieldLink RX12 278 "LanternHouseModel" "codes" "I", .fieldLink RX12 37 "LanternHouseModel" "place" "I", .fieldLink RX12 284 "LanternHouseModel" "shows" "I", .fieldLink RX12 287 "LanternHouseModel" "isMade" "Z", .methodLink RX12 266 yX12_cut, .instanceMethod yX12_cut, .selects RX12 yX12_cut yX12_cut, .initialized RX12, .methodLink RX12 260 yX12_is, .instanceMethod yX12_is, .selects RX12 yX12_is yX12_is] : List Cond) ++ (zs_m_cut ++ (zs_m_is ++ (wsX120 ++ []))))
theorem gd_m_read : (zs_m_read).all goodWord = true := by decide +kernel
theorem in_m_read_12 : ∀ w ∈ wsX120, w ∈ zs_m_read := fun w h => List.mem_cons_of_mem _ (List.mem_append_right _ (List.mem_append_right _ (List.mem_append_right _ (List.mem_append_left _ h))))
theorem g_m_read_m_cut_266 : GoodIn zs_m_read (wsV RX12 266 RX12 yX12_cut zs_m_cut) := goodIn_app (goodIn_of _ (by decide +kernel)) (goodIn_sub (fun w h => List.mem_cons_of_mem _ (List.mem_append_right _ (List.mem_append_left _ h))) gd_m_cut)
theorem g_m_read_m_is_260 : GoodIn zs_m_read (wsV RX12 260 RX12 yX12_is zs_m_is) := goodIn_app (goodIn_of _ (by decide +kernel)) (goodIn_sub (fun w h => List.mem_cons_of_mem _ (List.mem_append_right _ (List.mem_append_right _ (List.mem_append_left _ h)))) gd_m_is)
abbrev ws_m_read (cB cI cJ cZ cQ : ClassId) (aM qTk qTp qTv qTn qLe qRl : Nat) (fTk : Nat → Int32) (fTp : Nat → Int32) (fTv : Nat → Int32) (fTn : Nat → Int64) (fLe : Nat → Int32) (fRl : Nat → Int32) (fsaM : List Value) : va_W := [(aM, .inr (12, fsaM)), (qTk, .inl (cI, 603, .inl fTk)), (qTp, .inl (cI, 603, .inl fTp)), (qTv, .inl (cI, 603, .inl fTv)), (qTn, .inl (cJ, 603, .inr (.inl fTn))), (qLe, .inl (cI, 2, .inl fLe)), (qRl, .inl (cI, 2, .inl fRl))]
set_option maxHeartbeats 4000000 in
set_option maxRecDepth 100000 in
theorem m_read (l : Launch) (dC : Nat → ClassId) (dI : Nat → Nat → Nat) (cB cI cJ cZ cQ : ClassId) (aM qTk qTp qTv qTn qLe qRl : Nat) (fTk : Nat → Int32) (fTp : Nat → Int32) (fTv : Nat → Int32) (fTn : Nat → Int64) (fLe : Nat → Int32) (fRl : Nat → Int32) (fsaM : List Value) (sz : Nat) (hlaM : fsaM.length = 87) (haM_2 : fsaM[2]? = some (.int 0)) (haM_5 : fsaM[5]? = some (.ref qTk)) (haM_6 : fsaM[6]? = some (.ref qTp)) (haM_7 : fsaM[7]? = some (.ref qTv)) (haM_8 : fsaM[8]? = some (.ref qTn)) (haM_18 : fsaM[18]? = some (.int 0)) (haM_20 : fsaM[20]? = some (.ref qLe)) (haM_33 : fsaM[33]? = some (.ref qRl)) : Met l yX12_read zs_m_read ({ frames := 2, cells := 0, slots := 0, locals := 52 } : Room) (zPc [.ref aM] (dC, dI) (zTY cB cI cJ cZ cQ) (ws_m_read cB cI cJ cZ cQ aM qTk qTp qTv qTn qLe qRl fTk fTp fTv fTn fLe fRl fsaM) sz) (va_Qi (fun (zr : Int32) (_ : Unit) => zr = 0) (fun (_ : Unit) (_ : State) => True) (va_A (ws_m_read cB cI cJ cZ cQ aM qTk qTp qTv qTn qLe qRl fTk fTp fTv fTn fLe fRl fsaM) sz)) 0 0 (va_A (ws_m_read cB cI cJ cZ cQ aM qTk qTp qTv qTn qLe qRl fTk fTp fTv fTn fLe fRl fsaM) sz) := by
  refine Met.ofW (cc := cX12_read) (maxL := 2) (ret := (some .int)) (by decide) rfl ?_
  intro p e s m args below meth c s₁ B hml hv
  obtain ⟨rfl, hsz, hP0, hK, hO, hD0⟩ := hv
  have hx := B.exec
  have hb := B.bytes
  have hr := B.returns
  have hts := atoms_spec (ws := zs_m_read) B.pre
  have hown : s.vm.findClass RX12 = some m.cls := findClass_of_methodNamed B.named
  have hlocks := B.notSynchronized
  subst hsz
  have hD8 := hD0.self (sz := s.heap.size)
  generalize hAe : va_A (ws_m_read cB cI cJ cZ cQ aM qTk qTp qTv qTn qLe qRl fTk fTp fTv fTn fLe fRl fsaM) s.heap.size = A at hD8 ⊢
  have hA : ∀ q : Nat, s.heap.size ≤ q → A q := fun q h => by rw [← hAe]; exact Or.inr h
  have hS : va_S A s.heap s.heap [] := va_S.rf
  have hP : va_P (dC, dI) vwCl [(aM, .inr (12, fsaM)), (qTk, .inl (cI, 603, .inl fTk)), (qTp, .inl (cI, 603, .inl fTp)), (qTv, .inl (cI, 603, .inl fTv)), (qTn, .inl (cJ, 603, .inr (.inl fTn))), (qLe, .inl (cI, 2, .inl fLe)), (qRl, .inl (cI, 2, .inl fRl))] s.heap := hP0
  have hD : va_D A [(aM, .inr (12, fsaM)), (qTk, .inl (cI, 603, .inl fTk)), (qTp, .inl (cI, 603, .inl fTp)), (qTv, .inl (cI, 603, .inl fTv)), (qTn, .inl (cJ, 603, .inr (.inl fTn))), (qLe, .inl (cI, 2, .inl fLe)), (qRl, .inl (cI, 2, .inl fRl))] := hD8
  have hl := lv_entry ([.ref aM]) (n := 2) (Nat.le_of_ble_eq_true rfl)
  rw [lg_entry_eq]
  generalize (lg_sl ([.ref aM]) ++ List.replicate (2 - (lg_sl ([.ref aM])).length) Slot.unset).toArray = ls at hl ⊢
  have hl : lv_has ls 2 [(0, .ref aM)] := hl
  clear hP0 hD8 hD0
  refine zH0 (fun H hP hS => ?_) hP hS
  refine lv_aload_n hx hb dX12_read_0 rfl (lv_at hl 0 rfl) ?_
  refine lv_aload_n hx hb dX12_read_1 rfl (lv_at hl 0 rfl) ?_
  refine va_get (D := (dC, dI)) (ci := 12) (v := .int 0) (C := RX12) (T := TX12) (N := 87) hx hb hts in_m_read_12 hown hK hP 0 rfl rfl 2 (by decide) (hts (.fieldLink RX12 204 "LanternHouseModel" "taped" "I") (by decide +kernel)) (fun _ h9 => h9) haM_2 dX12_read_2 ?_
  refine va_put (D := (dC, dI)) (ci := 12) (v := .int 0) (ty := .int) (C := RX12) (T := TX12) (N := 87) hx hb hts in_m_read_12 tyX12 tyX12_ok nmX12 hown hK hP hD hS 0 rfl rfl 4 (by decide) (hts (.fieldLink RX12 211 "LanternHouseModel" "size" "I") (by decide +kernel)) (fun _ h9 => h9) rfl (by decide +kernel) rfl rfl (by rw [hlaM]; decide) dX12_read_5 (fun H locs hP hD hS => ?_)
  have hP : va_P (dC, dI) vwCl [(aM, .inr (12, (List.set fsaM 4 (.int 0)))), (qTk, .inl (cI, 603, .inl fTk)), (qTp, .inl (cI, 603, .inl fTp)), (qTv, .inl (cI, 603, .inl fTv)), (qTn, .inl (cJ, 603, .inr (.inl fTn))), (qLe, .inl (cI, 2, .inl fLe)), (qRl, .inl (cI, 2, .inl fRl))] H := hP
  have hD : va_D A [(aM, .inr (12, (List.set fsaM 4 (.int 0)))), (qTk, .inl (cI, 603, .inl fTk)), (qTp, .inl (cI, 603, .inl fTp)), (qTv, .inl (cI, 603, .inl fTv)), (qTn, .inl (cJ, 603, .inr (.inl fTn))), (qLe, .inl (cI, 2, .inl fLe)), (qRl, .inl (cI, 2, .inl fRl))] := hD
  refine lv_iconst (v := 0) hx hb dX12_read_8 (by decide) ?_
  refine lv_istore_n (lv' := [(1, .int 0), (0, .ref aM)]) hx hb dX12_read_9 rfl hl (by decide) rfl (fun ls hl => ?_)
  refine lv_iload_n hx hb dX12_read_10 rfl (lv_at hl 0 rfl) ?_
  refine lv_aload_n hx hb dX12_read_11 rfl (lv_at hl 1 rfl) ?_
  refine va_get (D := (dC, dI)) (ci := 12) (v := .int 0) (C := RX12) (T := TX12) (N := 87) hx hb hts in_m_read_12 hown hK hP 0 rfl rfl 4 (by decide) (hts (.fieldLink RX12 211 "LanternHouseModel" "size" "I") (by decide +kernel)) (fun _ h9 => h9) (zset_eq (by rw [hlaM]; decide)) dX12_read_12 ?_
  refine lv_icmp_ge (tgt := 36) hx hb dX12_read_15 (by decide) (fun _ => ?_) (fun zc => absurd zc (by decide))
  refine lv_aload_n hx hb dX12_read_36 rfl (lv_at hl 1 rfl) ?_
  refine lv_iconst (v := 0) hx hb dX12_read_37 (by decide) ?_
  refine va_put (D := (dC, dI)) (ci := 12) (v := .int 0) (ty := .int) (C := RX12) (T := TX12) (N := 87) hx hb hts in_m_read_12 tyX12 tyX12_ok nmX12 hown hK hP hD hS 0 rfl rfl 2 (by decide) (hts (.fieldLink RX12 204 "LanternHouseModel" "taped" "I") (by decide +kernel)) (fun _ h9 => h9) rfl (by decide +kernel) rfl rfl (by rw [(zset_len hlaM)]; decide) dX12_read_38 (fun H locs hP hD hS => ?_)
  have hP : va_P (dC, dI) vwCl [(aM, .inr (12, (List.set (List.set fsaM 4 (.int 0)) 2 (.int 0)))), (qTk, .inl (cI, 603, .inl fTk)), (qTp, .inl (cI, 603, .inl fTp)), (qTv, .inl (cI, 603, .inl fTv)), (qTn, .inl (cJ, 603, .inr (.inl fTn))), (qLe, .inl (cI, 2, .inl fLe)), (qRl, .inl (cI, 2, .inl fRl))] H := hP
  have hD : va_D A [(aM, .inr (12, (List.set (List.set fsaM 4 (.int 0)) 2 (.int 0)))), (qTk, .inl (cI, 603, .inl fTk)), (qTp, .inl (cI, 603, .inl fTp)), (qTv, .inl (cI, 603, .inl fTv)), (qTn, .inl (cJ, 603, .inr (.inl fTn))), (qLe, .inl (cI, 2, .inl fLe)), (qRl, .inl (cI, 2, .inl fRl))] := hD
  refine lv_aload_n hx hb dX12_read_41 rfl (lv_at hl 1 rfl) ?_
  have hPc : va_P (dC, dI) vwCl (ws_m_cut cB cI cJ cZ cQ aM qTk qTp qTv qTn fTk fTp fTv fTn (List.set (List.set fsaM 4 (.int 0)) 2 (.int 0))) H := hP.sub [0, 1, 2, 3, 4] rfl
  have hDc := hD.sub (ws' := (ws_m_cut cB cI cJ cZ cQ aM qTk qTp qTv qTn fTk fTp fTv fTn (List.set (List.set fsaM 4 (.int 0)) 2 (.int 0)))) [0, 1, 2, 3, 4] (by decide) rfl
  have hFc := va_free (wc := (ws_m_cut cB cI cJ cZ cQ aM qTk qTp qTv qTn fTk fTp fTv fTn (List.set (List.set fsaM 4 (.int 0)) 2 (.int 0)))) hD hS hA [0, 1, 2, 3, 4] rfl
  refine va_callv (va_runV (As := []) (rest := []) ⟨hx, hb, hml, hown, hts⟩ (m_cut l dC dI cB cI cJ cZ cQ aM qTk qTp qTv qTn fTk fTp fTv fTn (List.set (List.set fsaM 4 (.int 0)) 2 (.int 0)) H.size (zset_len (zset_len hlaM)) (zset_ne (by decide) (zset_eq (by rw [hlaM]; decide))) (zset_ne (by decide) (zset_ne (by decide) haM_5)) (zset_ne (by decide) (zset_ne (by decide) haM_6)) (zset_ne (by decide) (zset_ne (by decide) haM_7)) (zset_ne (by decide) (zset_ne (by decide) haM_8))) (cwV 0 hts g_m_read_m_cut_266 rfl rfl rfl (by decide +kernel) ⟨Nat.le_of_ble_eq_true rfl, Nat.le_of_ble_eq_true rfl⟩) ⟨zFB, va_recv hK hP (ci := 12) (q0 := 0) rfl rfl, fun U hU hW => zUp hU hW hPc hK hO hDc⟩ rfl rfl hl.1 rfl (lv_room (Nat.le_of_ble_eq_true rfl)) dX12_read_42 ⟨Nat.le_of_ble_eq_true rfl, Nat.le_of_ble_eq_true rfl⟩) hS (fun q _ h => hFc q h) hFc (fun u t H1 locs ht hvm hw2 hB hz1 hk1 hS => ?_)
  obtain ⟨fTk23, gs4, hgl5, hgf6, hk7, hP1, hD1⟩ := hB
  rw [ht] at hP1
  obtain ⟨hP, hD⟩ := va_join (wr := [(qLe, .inl (cI, 2, .inl fLe)), (qRl, .inl (cI, 2, .inl fRl))]) (w1 := [(aM, .inr (12, gs4)), (qTk, .inl (cI, 603, .inl fTk23))]) hP hD [0, 1, 2, 3, 4] [5, 6] rfl rfl (by decide) (by decide) hk1 hFc hP1 hD1
  generalize H1 = H at hP hS ⊢
  have hP : va_P (dC, dI) vwCl [(qLe, .inl (cI, 2, .inl fLe)), (qRl, .inl (cI, 2, .inl fRl)), (aM, .inr (12, gs4)), (qTk, .inl (cI, 603, .inl fTk23))] H := hP
  have hD : va_D A [(qLe, .inl (cI, 2, .inl fLe)), (qRl, .inl (cI, 2, .inl fRl)), (aM, .inr (12, gs4)), (qTk, .inl (cI, 603, .inl fTk23))] := hD
  refine lv_aload_n hx hb dX12_read_45 rfl (lv_at hl 1 rfl) ?_
  refine lv_iconst (v := 0) hx hb dX12_read_46 (by decide) ?_
  refine va_put (D := (dC, dI)) (ci := 12) (v := .int 0) (ty := .int) (C := RX12) (T := TX12) (N := 87) hx hb hts in_m_read_12 tyX12 tyX12_ok nmX12 hown hK hP hD hS 2 rfl rfl 11 (by decide) (hts (.fieldLink RX12 245 "LanternHouseModel" "t" "I") (by decide +kernel)) (fun _ h9 => h9) rfl (by decide +kernel) rfl rfl (by rw [hgl5]; decide) dX12_read_47 (fun H locs hP hD hS => ?_)
  have hP : va_P (dC, dI) vwCl [(qLe, .inl (cI, 2, .inl fLe)), (qRl, .inl (cI, 2, .inl fRl)), (aM, .inr (12, (List.set gs4 11 (.int 0)))), (qTk, .inl (cI, 603, .inl fTk23))] H := hP
  have hD : va_D A [(qLe, .inl (cI, 2, .inl fLe)), (qRl, .inl (cI, 2, .inl fRl)), (aM, .inr (12, (List.set gs4 11 (.int 0)))), (qTk, .inl (cI, 603, .inl fTk23))] := hD
  refine lv_aload_n hx hb dX12_read_50 rfl (lv_at hl 1 rfl) ?_
  refine lv_iconst (v := 0) hx hb dX12_read_51 (by decide) ?_
  refine va_put (D := (dC, dI)) (ci := 12) (v := .int 0) (ty := .int) (C := RX12) (T := TX12) (N := 87) hx hb hts in_m_read_12 tyX12 tyX12_ok nmX12 hown hK hP hD hS 2 rfl rfl 12 (by decide) (hts (.fieldLink RX12 269 "LanternHouseModel" "open" "I") (by decide +kernel)) (fun _ h9 => h9) rfl (by decide +kernel) rfl rfl (by rw [(zset_len hgl5)]; decide) dX12_read_52 (fun H locs hP hD hS => ?_)
  have hP : va_P (dC, dI) vwCl [(qLe, .inl (cI, 2, .inl fLe)), (qRl, .inl (cI, 2, .inl fRl)), (aM, .inr (12, (List.set (List.set gs4 11 (.int 0)) 12 (.int 0)))), (qTk, .inl (cI, 603, .inl fTk23))] H := hP
  have hD : va_D A [(qLe, .inl (cI, 2, .inl fLe)), (qRl, .inl (cI, 2, .inl fRl)), (aM, .inr (12, (List.set (List.set gs4 11 (.int 0)) 12 (.int 0)))), (qTk, .inl (cI, 603, .inl fTk23))] := hD
  refine lv_aload_n hx hb dX12_read_55 rfl (lv_at hl 1 rfl) ?_
  refine lv_iconst (v := 0) hx hb dX12_read_56 (by decide) ?_
  refine va_put (D := (dC, dI)) (ci := 12) (v := .int 0) (ty := .int) (C := RX12) (T := TX12) (N := 87) hx hb hts in_m_read_12 tyX12 tyX12_ok nmX12 hown hK hP hD hS 2 rfl rfl 13 (by decide) (hts (.fieldLink RX12 242 "LanternHouseModel" "fault" "I") (by decide +kernel)) (fun _ h9 => h9) rfl (by decide +kernel) rfl rfl (by rw [(zset_len (zset_len hgl5))]; decide) dX12_read_57 (fun H locs hP hD hS => ?_)
  have hP : va_P (dC, dI) vwCl [(qLe, .inl (cI, 2, .inl fLe)), (qRl, .inl (cI, 2, .inl fRl)), (aM, .inr (12, (List.set (List.set (List.set gs4 11 (.int 0)) 12 (.int 0)) 13 (.int 0)))), (qTk, .inl (cI, 603, .inl fTk23))] H := hP
  have hD : va_D A [(qLe, .inl (cI, 2, .inl fLe)), (qRl, .inl (cI, 2, .inl fRl)), (aM, .inr (12, (List.set (List.set (List.set gs4 11 (.int 0)) 12 (.int 0)) 13 (.int 0)))), (qTk, .inl (cI, 603, .inl fTk23))] := hD
  refine lv_aload_n hx hb dX12_read_60 rfl (lv_at hl 1 rfl) ?_
  refine lv_iconst (v := 0) hx hb dX12_read_61 (by decide) ?_
  refine va_put (D := (dC, dI)) (ci := 12) (v := .int 0) (ty := .int) (C := RX12) (T := TX12) (N := 87) hx hb hts in_m_read_12 tyX12 tyX12_ok nmX12 hown hK hP hD hS 2 rfl rfl 15 (by decide) (hts (.fieldLink RX12 251 "LanternHouseModel" "worst" "I") (by decide +kernel)) (fun _ h9 => h9) rfl (by decide +kernel) rfl rfl (by rw [(zset_len (zset_len (zset_len hgl5)))]; decide) dX12_read_62 (fun H locs hP hD hS => ?_)
  have hP : va_P (dC, dI) vwCl [(qLe, .inl (cI, 2, .inl fLe)), (qRl, .inl (cI, 2, .inl fRl)), (aM, .inr (12, (List.set (List.set (List.set (List.set gs4 11 (.int 0)) 12 (.int 0)) 13 (.int 0)) 15 (.int 0)))), (qTk, .inl (cI, 603, .inl fTk23))] H := hP
  have hD : va_D A [(qLe, .inl (cI, 2, .inl fLe)), (qRl, .inl (cI, 2, .inl fRl)), (aM, .inr (12, (List.set (List.set (List.set (List.set gs4 11 (.int 0)) 12 (.int 0)) 13 (.int 0)) 15 (.int 0)))), (qTk, .inl (cI, 603, .inl fTk23))] := hD
  refine lv_aload_n hx hb dX12_read_65 rfl (lv_at hl 1 rfl) ?_
  refine lv_iconst (v := 1) hx hb dX12_read_66 (by decide) ?_
  refine lv_aload_n hx hb dX12_read_67 rfl (lv_at hl 1 rfl) ?_
  refine va_get (D := (dC, dI)) (ci := 12) (v := .int 0) (C := RX12) (T := TX12) (N := 87) hx hb hts in_m_read_12 hown hK hP 2 rfl rfl 18 (by decide) (hts (.fieldLink RX12 272 "LanternHouseModel" "live" "I") (by decide +kernel)) (fun _ h9 => h9) (zset_ne (by decide) (zset_ne (by decide) (zset_ne (by decide) (zset_ne (by decide) ((hgf6 18 (by decide)).trans (zset_ne (by decide) (zset_ne (by decide) haM_18))))))) dX12_read_68 ?_
  refine lv_isub hx hb dX12_read_71 ?_
  refine lv_topi (fun x8 ex8 => ?_)
  obtain rfl : x8 = 1 := ex8.trans (by decide)
  refine va_put (D := (dC, dI)) (ci := 12) (v := .int 1) (ty := .int) (C := RX12) (T := TX12) (N := 87) hx hb hts in_m_read_12 tyX12 tyX12_ok nmX12 hown hK hP hD hS 2 rfl rfl 19 (by decide) (hts (.fieldLink RX12 275 "LanternHouseModel" "side" "I") (by decide +kernel)) (fun _ h9 => h9) rfl (by decide +kernel) rfl rfl (by rw [(zset_len (zset_len (zset_len (zset_len hgl5))))]; decide) dX12_read_72 (fun H locs hP hD hS => ?_)
  have hP : va_P (dC, dI) vwCl [(qLe, .inl (cI, 2, .inl fLe)), (qRl, .inl (cI, 2, .inl fRl)), (aM, .inr (12, (List.set (List.set (List.set (List.set (List.set gs4 11 (.int 0)) 12 (.int 0)) 13 (.int 0)) 15 (.int 0)) 19 (.int 1)))), (qTk, .inl (cI, 603, .inl fTk23))] H := hP
  have hD : va_D A [(qLe, .inl (cI, 2, .inl fLe)), (qRl, .inl (cI, 2, .inl fRl)), (aM, .inr (12, (List.set (List.set (List.set (List.set (List.set gs4 11 (.int 0)) 12 (.int 0)) 13 (.int 0)) 15 (.int 0)) 19 (.int 1)))), (qTk, .inl (cI, 603, .inl fTk23))] := hD
  refine lv_aload_n hx hb dX12_read_75 rfl (lv_at hl 1 rfl) ?_
  refine va_get (D := (dC, dI)) (ci := 12) (v := .ref qLe) (C := RX12) (T := TX12) (N := 87) hx hb hts in_m_read_12 hown hK hP 2 rfl rfl 20 (by decide) (hts (.fieldLink RX12 40 "LanternHouseModel" "lectures" "[I") (by decide +kernel)) (fun _ h9 => h9) (zset_ne (by decide) (zset_ne (by decide) (zset_ne (by decide) (zset_ne (by decide) (zset_ne (by decide) ((hgf6 20 (by decide)).trans (zset_ne (by decide) (zset_ne (by decide) haM_20)))))))) dX12_read_76 ?_
  refine lv_aload_n hx hb dX12_read_79 rfl (lv_at hl 1 rfl) ?_
  refine va_get (D := (dC, dI)) (ci := 12) (v := .int 1) (C := RX12) (T := TX12) (N := 87) hx hb hts in_m_read_12 hown hK hP 2 rfl rfl 19 (by decide) (hts (.fieldLink RX12 275 "LanternHouseModel" "side" "I") (by decide +kernel)) (fun _ h9 => h9) (zset_eq (by rw [(zset_len (zset_len (zset_len (zset_len hgl5))))]; decide)) dX12_read_80 ?_
  refine lv_iconst (v := 0) hx hb dX12_read_83 (by decide) ?_
  refine z_iast hx hb hK hP hD hS 0 1 rfl rfl (show ¬ ((1 : Int32) < 0 ∨ 2 ≤ (1 : Int32).toNatClampNeg) from by decide) dX12_read_84 (fun H locs g9 hg9 hP hD hS => ?_)
  have hP : va_P (dC, dI) vwCl [(qLe, .inl (cI, 2, .inl g9)), (qRl, .inl (cI, 2, .inl fRl)), (aM, .inr (12, (List.set (List.set (List.set (List.set (List.set gs4 11 (.int 0)) 12 (.int 0)) 13 (.int 0)) 15 (.int 0)) 19 (.int 1)))), (qTk, .inl (cI, 603, .inl fTk23))] H := hP
  have hD : va_D A [(qLe, .inl (cI, 2, .inl g9)), (qRl, .inl (cI, 2, .inl fRl)), (aM, .inr (12, (List.set (List.set (List.set (List.set (List.set gs4 11 (.int 0)) 12 (.int 0)) 13 (.int 0)) 15 (.int 0)) 19 (.int 1)))), (qTk, .inl (cI, 603, .inl fTk23))] := hD
  refine lv_aload_n hx hb dX12_read_85 rfl (lv_at hl 1 rfl) ?_
  refine va_get (D := (dC, dI)) (ci := 12) (v := .ref qRl) (C := RX12) (T := TX12) (N := 87) hx hb hts in_m_read_12 hown hK hP 2 rfl rfl 33 (by decide) (hts (.fieldLink RX12 80 "LanternHouseModel" "relations" "[I") (by decide +kernel)) (fun _ h9 => h9) (zset_ne (by decide) (zset_ne (by decide) (zset_ne (by decide) (zset_ne (by decide) (zset_ne (by decide) ((hgf6 33 (by decide)).trans (zset_ne (by decide) (zset_ne (by decide) haM_33)))))))) dX12_read_86 ?_
  refine lv_aload_n hx hb dX12_read_89 rfl (lv_at hl 1 rfl) ?_
  refine va_get (D := (dC, dI)) (ci := 12) (v := .int 1) (C := RX12) (T := TX12) (N := 87) hx hb hts in_m_read_12 hown hK hP 2 rfl rfl 19 (by decide) (hts (.fieldLink RX12 275 "LanternHouseModel" "side" "I") (by decide +kernel)) (fun _ h9 => h9) (zset_eq (by rw [(zset_len (zset_len (zset_len (zset_len hgl5))))]; decide)) dX12_read_90 ?_
  refine lv_iconst (v := 0) hx hb dX12_read_93 (by decide) ?_
  refine z_iast hx hb hK hP hD hS 1 1 rfl rfl (show ¬ ((1 : Int32) < 0 ∨ 2 ≤ (1 : Int32).toNatClampNeg) from by decide) dX12_read_94 (fun H locs g10 hg10 hP hD hS => ?_)
  have hP : va_P (dC, dI) vwCl [(qLe, .inl (cI, 2, .inl g9)), (qRl, .inl (cI, 2, .inl g10)), (aM, .inr (12, (List.set (List.set (List.set (List.set (List.set gs4 11 (.int 0)) 12 (.int 0)) 13 (.int 0)) 15 (.int 0)) 19 (.int 1)))), (qTk, .inl (cI, 603, .inl fTk23))] H := hP
  have hD : va_D A [(qLe, .inl (cI, 2, .inl g9)), (qRl, .inl (cI, 2, .inl g10)), (aM, .inr (12, (List.set (List.set (List.set (List.set (List.set gs4 11 (.int 0)) 12 (.int 0)) 13 (.int 0)) 15 (.int 0)) 19 (.int 1)))), (qTk, .inl (cI, 603, .inl fTk23))] := hD
  refine lv_aload_n hx hb dX12_read_95 rfl (lv_at hl 1 rfl) ?_
  refine lv_sipush (v := 700) hx hb dX12_read_96 (by decide) ?_
  refine lv_aload_n hx hb dX12_read_99 rfl (lv_at hl 1 rfl) ?_
  refine va_get (D := (dC, dI)) (ci := 12) (v := .int 1) (C := RX12) (T := TX12) (N := 87) hx hb hts in_m_read_12 hown hK hP 2 rfl rfl 19 (by decide) (hts (.fieldLink RX12 275 "LanternHouseModel" "side" "I") (by decide +kernel)) (fun _ h9 => h9) (zset_eq (by rw [(zset_len (zset_len (zset_len (zset_len hgl5))))]; decide)) dX12_read_100 ?_
  refine lv_imul hx hb dX12_read_103 ?_
  refine lv_topi (fun x11 ex11 => ?_)
  obtain rfl : x11 = 700 := ex11.trans (by decide)
  refine va_put (D := (dC, dI)) (ci := 12) (v := .int 700) (ty := .int) (C := RX12) (T := TX12) (N := 87) hx hb hts in_m_read_12 tyX12 tyX12_ok nmX12 hown hK hP hD hS 2 rfl rfl 38 (by decide) (hts (.fieldLink RX12 278 "LanternHouseModel" "codes" "I") (by decide +kernel)) (fun _ h9 => h9) rfl (by decide +kernel) rfl rfl (by rw [(zset_len (zset_len (zset_len (zset_len (zset_len hgl5)))))]; decide) dX12_read_104 (fun H locs hP hD hS => ?_)
  have hP : va_P (dC, dI) vwCl [(qLe, .inl (cI, 2, .inl g9)), (qRl, .inl (cI, 2, .inl g10)), (aM, .inr (12, (List.set (List.set (List.set (List.set (List.set (List.set gs4 11 (.int 0)) 12 (.int 0)) 13 (.int 0)) 15 (.int 0)) 19 (.int 1)) 38 (.int 700)))), (qTk, .inl (cI, 603, .inl fTk23))] H := hP
  have hD : va_D A [(qLe, .inl (cI, 2, .inl g9)), (qRl, .inl (cI, 2, .inl g10)), (aM, .inr (12, (List.set (List.set (List.set (List.set (List.set (List.set gs4 11 (.int 0)) 12 (.int 0)) 13 (.int 0)) 15 (.int 0)) 19 (.int 1)) 38 (.int 700)))), (qTk, .inl (cI, 603, .inl fTk23))] := hD
  refine lv_aload_n hx hb dX12_read_107 rfl (lv_at hl 1 rfl) ?_
  refine va_get (D := (dC, dI)) (ci := 12) (v := .int 0) (C := RX12) (T := TX12) (N := 87) hx hb hts in_m_read_12 hown hK hP 2 rfl rfl 13 (by decide) (hts (.fieldLink RX12 242 "LanternHouseModel" "fault" "I") (by decide +kernel)) (fun _ h9 => h9) (zset_ne (by decide) (zset_ne (by decide) (zset_ne (by decide) (zset_eq (by rw [(zset_len (zset_len hgl5))]; decide))))) dX12_read_108 ?_
  refine lv_if_ne (tgt := 129) hx hb dX12_read_111 (by decide) (fun zc => absurd zc (by decide)) (fun _ => ?_)
  refine lv_aload_n hx hb dX12_read_114 rfl (lv_at hl 1 rfl) ?_
  refine lv_iconst (v := 0) hx hb dX12_read_115 (by decide) ?_
  have hPc : va_P (dC, dI) vwCl (ws_m_is cB cI cJ cZ cQ aM qTk fTk23 (List.set (List.set (List.set (List.set (List.set (List.set gs4 11 (.int 0)) 12 (.int 0)) 13 (.int 0)) 15 (.int 0)) 19 (.int 1)) 38 (.int 700))) H := hP.sub [2, 3] rfl
  have hDc := hD.sub (ws' := (ws_m_is cB cI cJ cZ cQ aM qTk fTk23 (List.set (List.set (List.set (List.set (List.set (List.set gs4 11 (.int 0)) 12 (.int 0)) 13 (.int 0)) 15 (.int 0)) 19 (.int 1)) 38 (.int 700)))) [2, 3] (by decide) rfl
  have hFc := va_free (wc := (ws_m_is cB cI cJ cZ cQ aM qTk fTk23 (List.set (List.set (List.set (List.set (List.set (List.set gs4 11 (.int 0)) 12 (.int 0)) 13 (.int 0)) 15 (.int 0)) 19 (.int 1)) 38 (.int 700)))) hD hS hA [2, 3] rfl
  refine va_calli (va_runV (As := [.int 0]) (rest := []) ⟨hx, hb, hml, hown, hts⟩ (m_is l dC dI cB cI cJ cZ cQ aM qTk fTk23 (List.set (List.set (List.set (List.set (List.set (List.set gs4 11 (.int 0)) 12 (.int 0)) 13 (.int 0)) 15 (.int 0)) 19 (.int 1)) 38 (.int 700)) H.size hk7 (zset_len (zset_len (zset_len (zset_len (zset_len (zset_len hgl5)))))) (zset_ne (by decide) (zset_ne (by decide) (zset_ne (by decide) (zset_ne (by decide) (zset_ne (by decide) (zset_ne (by decide) ((hgf6 5 (by decide)).trans (zset_ne (by decide) (zset_ne (by decide) haM_5))))))))) (zset_ne (by decide) (zset_ne (by decide) (zset_ne (by decide) (zset_ne (by decide) (zset_ne (by decide) (zset_eq (by rw [hgl5]; decide))))))) (zset_ne (by decide) (zset_ne (by decide) (zset_ne (by decide) (zset_eq (by rw [(zset_len (zset_len hgl5))]; decide)))))) (cwV 1 hts g_m_read_m_is_260 rfl rfl rfl (by decide +kernel) ⟨Nat.le_of_ble_eq_true rfl, Nat.le_of_ble_eq_true rfl⟩) ⟨zFB, va_recv hK hP (ci := 12) (q0 := 2) rfl rfl, fun U hU hW => zUp hU hW hPc hK hO hDc⟩ rfl rfl hl.1 rfl (lv_room (Nat.le_of_ble_eq_true rfl)) dX12_read_116 ⟨Nat.le_of_ble_eq_true rfl, Nat.le_of_ble_eq_true rfl⟩) hS (fun q _ h => hFc q h) hFc (fun r12 u t H1 locs ht hvm hw13 hB hz1 hk1 hS => ?_)
  obtain ⟨gs14, hgl15, hgf16, hP1, hD1⟩ := hB
  rw [ht] at hP1
  obtain ⟨hP, hD⟩ := va_join (wr := [(qLe, .inl (cI, 2, .inl g9)), (qRl, .inl (cI, 2, .inl g10))]) (w1 := [(aM, .inr (12, gs14))]) hP hD [2, 3] [0, 1] rfl rfl (by decide) (by decide) hk1 hFc hP1 hD1
  generalize H1 = H at hP hS ⊢
  have hP : va_P (dC, dI) vwCl [(qLe, .inl (cI, 2, .inl g9)), (qRl, .inl (cI, 2, .inl g10)), (aM, .inr (12, gs14))] H := hP
  have hD : va_D A [(qLe, .inl (cI, 2, .inl g9)), (qRl, .inl (cI, 2, .inl g10)), (aM, .inr (12, gs14))] := hD
  obtain rfl : r12 = 1 := hw13
  refine lv_if_ne (tgt := 129) hx hb dX12_read_119 (by decide) (fun _ => ?_) (fun zc => absurd zc (by decide))
  refine lv_aload_n hx hb dX12_read_129 rfl (lv_at hl 1 rfl) ?_
  refine lv_aload_n hx hb dX12_read_130 rfl (lv_at hl 1 rfl) ?_
  refine va_get (D := (dC, dI)) (ci := 12) (v := .int 0) (C := RX12) (T := TX12) (N := 87) hx hb hts in_m_read_12 hown hK hP 2 rfl rfl 13 (by decide) (hts (.fieldLink RX12 242 "LanternHouseModel" "fault" "I") (by decide +kernel)) (fun _ h9 => h9) ((hgf16 13 (by decide)).trans (zset_ne (by decide) (zset_ne (by decide) (zset_ne (by decide) (zset_eq (by rw [(zset_len (zset_len hgl5))]; decide)))))) dX12_read_131 ?_
  refine lv_if_le (tgt := 144) hx hb dX12_read_134 (by decide) (fun _ => ?_) (fun zc => absurd zc (by decide))
  refine lv_aload_n hx hb dX12_read_144 rfl (lv_at hl 1 rfl) ?_
  refine va_get (D := (dC, dI)) (ci := 12) (v := .int 0) (C := RX12) (T := TX12) (N := 87) hx hb hts in_m_read_12 hown hK hP 2 rfl rfl 15 (by decide) (hts (.fieldLink RX12 251 "LanternHouseModel" "worst" "I") (by decide +kernel)) (fun _ h9 => h9) ((hgf16 15 (by decide)).trans (zset_ne (by decide) (zset_ne (by decide) (zset_eq (by rw [(zset_len (zset_len (zset_len hgl5)))]; decide))))) dX12_read_145 ?_
  refine lv_if_le (tgt := 158) hx hb dX12_read_148 (by decide) (fun _ => ?_) (fun zc => absurd zc (by decide))
  refine lv_iconst (v := (-1)) hx hb dX12_read_158 (by decide) ?_
  refine va_put (D := (dC, dI)) (ci := 12) (v := .int (-1)) (ty := .int) (C := RX12) (T := TX12) (N := 87) hx hb hts in_m_read_12 tyX12 tyX12_ok nmX12 hown hK hP hD hS 2 rfl rfl 17 (by decide) (hts (.fieldLink RX12 37 "LanternHouseModel" "place" "I") (by decide +kernel)) (fun _ h9 => h9) rfl (by decide +kernel) rfl rfl (by rw [hgl15]; decide) dX12_read_159 (fun H locs hP hD hS => ?_)
  have hP : va_P (dC, dI) vwCl [(qLe, .inl (cI, 2, .inl g9)), (qRl, .inl (cI, 2, .inl g10)), (aM, .inr (12, (List.set gs14 17 (.int (-1)))))] H := hP
  have hD : va_D A [(qLe, .inl (cI, 2, .inl g9)), (qRl, .inl (cI, 2, .inl g10)), (aM, .inr (12, (List.set gs14 17 (.int (-1)))))] := hD
  refine lv_aload_n hx hb dX12_read_162 rfl (lv_at hl 1 rfl) ?_
  refine va_get (D := (dC, dI)) (ci := 12) (v := .int 0) (C := RX12) (T := TX12) (N := 87) hx hb hts in_m_read_12 hown hK hP 2 rfl rfl 13 (by decide) (hts (.fieldLink RX12 242 "LanternHouseModel" "fault" "I") (by decide +kernel)) (fun _ h9 => h9) (zset_ne (by decide) ((hgf16 13 (by decide)).trans (zset_ne (by decide) (zset_ne (by decide) (zset_ne (by decide) (zset_eq (by rw [(zset_len (zset_len hgl5))]; decide))))))) dX12_read_163 ?_
  refine lv_if_le (tgt := 174) hx hb dX12_read_166 (by decide) (fun _ => ?_) (fun zc => absurd zc (by decide))
  refine lv_aload_n hx hb dX12_read_174 rfl (lv_at hl 1 rfl) ?_
  refine va_get (D := (dC, dI)) (ci := 12) (v := .int 0) (C := RX12) (T := TX12) (N := 87) hx hb hts in_m_read_12 hown hK hP 2 rfl rfl 15 (by decide) (hts (.fieldLink RX12 251 "LanternHouseModel" "worst" "I") (by decide +kernel)) (fun _ h9 => h9) (zset_ne (by decide) ((hgf16 15 (by decide)).trans (zset_ne (by decide) (zset_ne (by decide) (zset_eq (by rw [(zset_len (zset_len (zset_len hgl5)))]; decide)))))) dX12_read_175 ?_
  refine lv_if_le (tgt := 186) hx hb dX12_read_178 (by decide) (fun _ => ?_) (fun zc => absurd zc (by decide))
  refine lv_aload_n hx hb dX12_read_186 rfl (lv_at hl 1 rfl) ?_
  refine lv_aload_n hx hb dX12_read_187 rfl (lv_at hl 1 rfl) ?_
  refine va_get (D := (dC, dI)) (ci := 12) (v := .int 1) (C := RX12) (T := TX12) (N := 87) hx hb hts in_m_read_12 hown hK hP 2 rfl rfl 19 (by decide) (hts (.fieldLink RX12 275 "LanternHouseModel" "side" "I") (by decide +kernel)) (fun _ h9 => h9) (zset_ne (by decide) ((hgf16 19 (by decide)).trans (zset_ne (by decide) (zset_eq (by rw [(zset_len (zset_len (zset_len (zset_len hgl5))))]; decide))))) dX12_read_188 ?_
  refine va_put (D := (dC, dI)) (ci := 12) (v := .int 1) (ty := .int) (C := RX12) (T := TX12) (N := 87) hx hb hts in_m_read_12 tyX12 tyX12_ok nmX12 hown hK hP hD hS 2 rfl rfl 18 (by decide) (hts (.fieldLink RX12 272 "LanternHouseModel" "live" "I") (by decide +kernel)) (fun _ h9 => h9) rfl (by decide +kernel) rfl rfl (by rw [(zset_len hgl15)]; decide) dX12_read_191 (fun H locs hP hD hS => ?_)
  have hP : va_P (dC, dI) vwCl [(qLe, .inl (cI, 2, .inl g9)), (qRl, .inl (cI, 2, .inl g10)), (aM, .inr (12, (List.set (List.set gs14 17 (.int (-1))) 18 (.int 1))))] H := hP
  have hD : va_D A [(qLe, .inl (cI, 2, .inl g9)), (qRl, .inl (cI, 2, .inl g10)), (aM, .inr (12, (List.set (List.set gs14 17 (.int (-1))) 18 (.int 1))))] := hD
  refine lv_aload_n hx hb dX12_read_194 rfl (lv_at hl 1 rfl) ?_
  refine lv_iconst (v := 0) hx hb dX12_read_195 (by decide) ?_
  refine va_put (D := (dC, dI)) (ci := 12) (v := .int 0) (ty := .int) (C := RX12) (T := TX12) (N := 87) hx hb hts in_m_read_12 tyX12 tyX12_ok nmX12 hown hK hP hD hS 2 rfl rfl 59 (by decide) (hts (.fieldLink RX12 284 "LanternHouseModel" "shows" "I") (by decide +kernel)) (fun _ h9 => h9) rfl (by decide +kernel) rfl rfl (by rw [(zset_len (zset_len hgl15))]; decide) dX12_read_196 (fun H locs hP hD hS => ?_)
  have hP : va_P (dC, dI) vwCl [(qLe, .inl (cI, 2, .inl g9)), (qRl, .inl (cI, 2, .inl g10)), (aM, .inr (12, (List.set (List.set (List.set gs14 17 (.int (-1))) 18 (.int 1)) 59 (.int 0))))] H := hP
  have hD : va_D A [(qLe, .inl (cI, 2, .inl g9)), (qRl, .inl (cI, 2, .inl g10)), (aM, .inr (12, (List.set (List.set (List.set gs14 17 (.int (-1))) 18 (.int 1)) 59 (.int 0))))] := hD
  refine lv_aload_n hx hb dX12_read_199 rfl (lv_at hl 1 rfl) ?_
  refine lv_iconst (v := 0) hx hb dX12_read_200 (by decide) ?_
  refine va_put (D := (dC, dI)) (ci := 12) (v := .int 0) (ty := .boolean) (C := RX12) (T := TX12) (N := 87) hx hb hts in_m_read_12 tyX12 tyX12_ok nmX12 hown hK hP hD hS 2 rfl rfl 74 (by decide) (hts (.fieldLink RX12 287 "LanternHouseModel" "isMade" "Z") (by decide +kernel)) (fun _ h9 => h9) rfl (by decide +kernel) rfl rfl (by rw [(zset_len (zset_len (zset_len hgl15)))]; decide) dX12_read_201 (fun H locs hP hD hS => ?_)
  have hP : va_P (dC, dI) vwCl [(qLe, .inl (cI, 2, .inl g9)), (qRl, .inl (cI, 2, .inl g10)), (aM, .inr (12, (List.set (List.set (List.set (List.set gs14 17 (.int (-1))) 18 (.int 1)) 59 (.int 0)) 74 (.int 0))))] H := hP
  have hD : va_D A [(qLe, .inl (cI, 2, .inl g9)), (qRl, .inl (cI, 2, .inl g10)), (aM, .inr (12, (List.set (List.set (List.set (List.set gs14 17 (.int (-1))) 18 (.int 1)) 59 (.int 0)) 74 (.int 0))))] := hD
  refine lv_iconst (v := 0) hx hb dX12_read_204 (by decide) ?_
  exact W.iret (v := 0) hx hb hr (fun t ht hW => ⟨⟨0, (), rfl, rfl, trivial⟩, hS.F ht⟩) hS.2.2 dX12_read_205

def zs_m_place : List Cond := .code yX12_place cX12_place 1 (some .int) :: (([.fieldLink RX12 37 "LanternHouseModel" "place" "I"] : List Cond) ++ (wsX120 ++ []))
theorem gd_m_place : (zs_m_place).all goodWord = true := by decide +kernel
theorem in_m_place_12 : ∀ w ∈ wsX120, w ∈ zs_m_place := fun w h => List.mem_cons_of_mem _ (List.mem_append_right _ (List.mem_append_left _ h))
abbrev ws_m_place (cB cI cJ cZ cQ : ClassId) (aM : Nat) (fsaM : List Value) : va_W := [(aM, .inr (12, fsaM))]
set_option maxHeartbeats 4000000 in
set_option maxRecDepth 100000 in
theorem m_place (l : Launch) (dC : Nat → ClassId) (dI : Nat → Nat → Nat) (cB cI cJ cZ cQ : ClassId) (aM : Nat) (fsaM : List Value) (sz : Nat) (hlaM : fsaM.length = 87) (haM_17 : fsaM[17]? = some (.int (-1))) : Met l yX12_place zs_m_place ({ frames := 0, cells := 0, slots := 0, locals := 0 } : Room) (zPc [.ref aM] (dC, dI) (zTY cB cI cJ cZ cQ) (ws_m_place cB cI cJ cZ cQ aM fsaM) sz) (va_Qi (fun (zr : Int32) (_ : Unit) => zr = (-1)) (fun (_ : Unit) (_ : State) => True) (va_A (ws_m_place cB cI cJ cZ cQ aM fsaM) sz)) 0 0 (va_A (ws_m_place cB cI cJ cZ cQ aM fsaM) sz) := by
  refine Met.ofW (cc := cX12_place) (maxL := 1) (ret := (some .int)) (by decide) rfl ?_
  intro p e s m args below meth c s₁ B hml hv
  obtain ⟨rfl, hsz, hP0, hK, hO, hD0⟩ := hv
  have hx := B.exec
  have hb := B.bytes
  have hr := B.returns
  have hts := atoms_spec (ws := zs_m_place) B.pre
  have hown : s.vm.findClass RX12 = some m.cls := findClass_of_methodNamed B.named
  have hlocks := B.notSynchronized
  subst hsz
  have hD8 := hD0.self (sz := s.heap.size)
  generalize hAe : va_A (ws_m_place cB cI cJ cZ cQ aM fsaM) s.heap.size = A at hD8 ⊢
  have hA : ∀ q : Nat, s.heap.size ≤ q → A q := fun q h => by rw [← hAe]; exact Or.inr h
  have hS : va_S A s.heap s.heap [] := va_S.rf
  have hP : va_P (dC, dI) vwCl [(aM, .inr (12, fsaM))] s.heap := hP0
  have hD : va_D A [(aM, .inr (12, fsaM))] := hD8
  have hl := lv_entry ([.ref aM]) (n := 1) (Nat.le_of_ble_eq_true rfl)
  rw [lg_entry_eq]
  generalize (lg_sl ([.ref aM]) ++ List.replicate (1 - (lg_sl ([.ref aM])).length) Slot.unset).toArray = ls at hl ⊢
  have hl : lv_has ls 1 [(0, .ref aM)] := hl
  clear hP0 hD8 hD0
  refine zH0 (fun H hP hS => ?_) hP hS
  refine lv_aload_n hx hb dX12_place_0 rfl (lv_at hl 0 rfl) ?_
  refine va_get (D := (dC, dI)) (ci := 12) (v := .int (-1)) (C := RX12) (T := TX12) (N := 87) hx hb hts in_m_place_12 hown hK hP 0 rfl rfl 17 (by decide) (hts (.fieldLink RX12 37 "LanternHouseModel" "place" "I") (by decide +kernel)) (fun _ h9 => h9) haM_17 dX12_place_1 ?_
  exact W.iret (v := (-1)) hx hb hr (fun t ht hW => ⟨⟨(-1), (), rfl, rfl, trivial⟩, hS.F ht⟩) hS.2.2 dX12_place_4

def zs_m_hall : List Cond := .code yX12_hall cX12_hall 1 (some .int) :: (([.fieldLink RX12 201 "LanternHouseModel" "halls" "I"] : List Cond) ++ (wsX120 ++ []))
theorem gd_m_hall : (zs_m_hall).all goodWord = true := by decide +kernel
theorem in_m_hall_12 : ∀ w ∈ wsX120, w ∈ zs_m_hall := fun w h => List.mem_cons_of_mem _ (List.mem_append_right _ (List.mem_append_left _ h))
abbrev ws_m_hall (cB cI cJ cZ cQ : ClassId) (aM : Nat) (fsaM : List Value) : va_W := [(aM, .inr (12, fsaM))]
set_option maxHeartbeats 4000000 in
set_option maxRecDepth 100000 in
theorem m_hall (l : Launch) (dC : Nat → ClassId) (dI : Nat → Nat → Nat) (cB cI cJ cZ cQ : ClassId) (aM : Nat) (fsaM : List Value) (sz : Nat) (hlaM : fsaM.length = 87) (haM_43 : fsaM[43]? = some (.int 1)) : Met l yX12_hall zs_m_hall ({ frames := 0, cells := 0, slots := 0, locals := 0 } : Room) (zPc [.ref aM] (dC, dI) (zTY cB cI cJ cZ cQ) (ws_m_hall cB cI cJ cZ cQ aM fsaM) sz) (va_Qi (fun (zr : Int32) (_ : Unit) => zr = 1) (fun (_ : Unit) (_ : State) => True) (va_A (ws_m_hall cB cI cJ cZ cQ aM fsaM) sz)) 0 0 (va_A (ws_m_hall cB cI cJ cZ cQ aM fsaM) sz) := by
  refine Met.ofW (cc := cX12_hall) (maxL := 1) (ret := (some .int)) (by decide) rfl ?_
  intro p e s m args below meth c s₁ B hml hv
  obtain ⟨rfl, hsz, hP0, hK, hO, hD0⟩ := hv
  have hx := B.exec
  have hb := B.bytes
  have hr := B.returns
  have hts := atoms_spec (ws := zs_m_hall) B.pre
  have hown : s.vm.findClass RX12 = some m.cls := findClass_of_methodNamed B.named
  have hlocks := B.notSynchronized
  subst hsz
  have hD8 := hD0.self (sz := s.heap.size)
  generalize hAe : va_A (ws_m_hall cB cI cJ cZ cQ aM fsaM) s.heap.size = A at hD8 ⊢
  have hA : ∀ q : Nat, s.heap.size ≤ q → A q := fun q h => by rw [← hAe]; exact Or.inr h
  have hS : va_S A s.heap s.heap [] := va_S.rf
  have hP : va_P (dC, dI) vwCl [(aM, .inr (12, fsaM))] s.heap := hP0
  have hD : va_D A [(aM, .inr (12, fsaM))] := hD8
  have hl := lv_entry ([.ref aM]) (n := 1) (Nat.le_of_ble_eq_true rfl)
  rw [lg_entry_eq]
  generalize (lg_sl ([.ref aM]) ++ List.replicate (1 - (lg_sl ([.ref aM])).length) Slot.unset).toArray = ls at hl ⊢
  have hl : lv_has ls 1 [(0, .ref aM)] := hl
  clear hP0 hD8 hD0
  refine zH0 (fun H hP hS => ?_) hP hS
  refine lv_aload_n hx hb dX12_hall_0 rfl (lv_at hl 0 rfl) ?_
  refine va_get (D := (dC, dI)) (ci := 12) (v := .int 1) (C := RX12) (T := TX12) (N := 87) hx hb hts in_m_hall_12 hown hK hP 0 rfl rfl 43 (by decide) (hts (.fieldLink RX12 201 "LanternHouseModel" "halls" "I") (by decide +kernel)) (fun _ h9 => h9) haM_43 dX12_hall_1 ?_
  refine lv_bipush (v := 6) hx hb dX12_hall_4 (by decide) ?_
  refine lv_icmp_ne (tgt := 11) hx hb dX12_hall_6 (by decide) (fun _ => ?_) (fun zc => absurd zc (by decide))
  refine lv_aload_n hx hb dX12_hall_11 rfl (lv_at hl 0 rfl) ?_
  refine lv_dup hx hb dX12_hall_12 rfl ?_
  refine va_get (D := (dC, dI)) (ci := 12) (v := .int 1) (C := RX12) (T := TX12) (N := 87) hx hb hts in_m_hall_12 hown hK hP 0 rfl rfl 43 (by decide) (hts (.fieldLink RX12 201 "LanternHouseModel" "halls" "I") (by decide +kernel)) (fun _ h9 => h9) haM_43 dX12_hall_13 ?_
  refine lv_iconst (v := 1) hx hb dX12_hall_16 (by decide) ?_
  refine lv_iadd hx hb dX12_hall_17 ?_
  refine lv_topi (fun x1 ex1 => ?_)
  obtain rfl : x1 = 2 := ex1.trans (by decide)
  refine va_put (D := (dC, dI)) (ci := 12) (v := .int 2) (ty := .int) (C := RX12) (T := TX12) (N := 87) hx hb hts in_m_hall_12 tyX12 tyX12_ok nmX12 hown hK hP hD hS 0 rfl rfl 43 (by decide) (hts (.fieldLink RX12 201 "LanternHouseModel" "halls" "I") (by decide +kernel)) (fun _ h9 => h9) rfl (by decide +kernel) rfl rfl (by rw [hlaM]; decide) dX12_hall_18 (fun H locs hP hD hS => ?_)
  have hP : va_P (dC, dI) vwCl [(aM, .inr (12, (List.set fsaM 43 (.int 2))))] H := hP
  have hD : va_D A [(aM, .inr (12, (List.set fsaM 43 (.int 2))))] := hD
  refine lv_aload_n hx hb dX12_hall_21 rfl (lv_at hl 0 rfl) ?_
  refine va_get (D := (dC, dI)) (ci := 12) (v := .int 2) (C := RX12) (T := TX12) (N := 87) hx hb hts in_m_hall_12 hown hK hP 0 rfl rfl 43 (by decide) (hts (.fieldLink RX12 201 "LanternHouseModel" "halls" "I") (by decide +kernel)) (fun _ h9 => h9) (zset_eq (by rw [hlaM]; decide)) dX12_hall_22 ?_
  refine lv_iconst (v := 1) hx hb dX12_hall_25 (by decide) ?_
  refine lv_isub hx hb dX12_hall_26 ?_
  refine lv_topi (fun x2 ex2 => ?_)
  obtain rfl : x2 = 1 := ex2.trans (by decide)
  exact W.iret (v := 1) hx hb hr (fun t ht hW => ⟨⟨1, (), rfl, rfl, trivial⟩, hS.F ht⟩) hS.2.2 dX12_hall_27

def zs_m_train : List Cond := .code yX12_train cX12_train 5 (some .int) :: (([.fieldLink RX12 326 "LanternHouseModel" "trains" "I", .methodLink RX12 329 yX12_isHall, .instanceMethod yX12_isHall, .selects RX12 yX12_isHall yX12_isHall, .initialized RX12] : List Cond) ++ (zs_m_isHall ++ (wsX120 ++ [])))
theorem gd_m_train : (zs_m_train).all goodWord = true := by decide +kernel
theorem in_m_train_12 : ∀ w ∈ wsX120, w ∈ zs_m_train := fun w h => List.mem_cons_of_mem _ (List.mem_append_right _ (List.mem_append_right _ (List.mem_append_left _ h)))
theorem g_m_train_m_isHall_329 : GoodIn zs_m_train (wsV RX12 329 RX12 yX12_isHall zs_m_isHall) := goodIn_app (goodIn_of _ (by decide +kernel)) (goodIn_sub (fun w h => List.mem_cons_of_mem _ (List.mem_append_right _ (List.mem_append_left _ h))) gd_m_isHall)
abbrev ws_m_train (cB cI cJ cZ cQ : ClassId) (aM : Nat) (iFr : Int32) (iTo : Int32) (iHr : Int32) (iTa : Int32) (fsaM : List Value) : va_W := [(aM, .inr (12, fsaM))]
set_option maxHeartbeats 4000000 in
set_option maxRecDepth 100000 in
theorem m_train (l : Launch) (dC : Nat → ClassId) (dI : Nat → Nat → Nat) (cB cI cJ cZ cQ : ClassId) (aM : Nat) (iFr : Int32) (iTo : Int32) (iHr : Int32) (iTa : Int32) (fsaM : List Value) (sz : Nat) (hlaM : fsaM.length = 87) (haM_43 : fsaM[43]? = some (.int 1)) (haM_44 : fsaM[44]? = some (.int 0)) : Met l yX12_train zs_m_train ({ frames := 1, cells := 0, slots := 0, locals := 21 } : Room) (zPc [.ref aM, .int iFr, .int iTo, .int iHr, .int iTa] (dC, dI) (zTY cB cI cJ cZ cQ) (ws_m_train cB cI cJ cZ cQ aM iFr iTo iHr iTa fsaM) sz) (va_Qi (fun (zr : Int32) (_ : Unit) => zr = (-1)) (fun (_ : Unit) (_ : State) => True) (va_A (ws_m_train cB cI cJ cZ cQ aM iFr iTo iHr iTa fsaM) sz)) 0 0 (va_A (ws_m_train cB cI cJ cZ cQ aM iFr iTo iHr iTa fsaM) sz) := by
  refine Met.ofW (cc := cX12_train) (maxL := 5) (ret := (some .int)) (by decide) rfl ?_
  intro p e s m args below meth c s₁ B hml hv
  obtain ⟨rfl, hsz, hP0, hK, hO, hD0⟩ := hv
  have hx := B.exec
  have hb := B.bytes
  have hr := B.returns
  have hts := atoms_spec (ws := zs_m_train) B.pre
  have hown : s.vm.findClass RX12 = some m.cls := findClass_of_methodNamed B.named
  have hlocks := B.notSynchronized
  subst hsz
  have hD8 := hD0.self (sz := s.heap.size)
  generalize hAe : va_A (ws_m_train cB cI cJ cZ cQ aM iFr iTo iHr iTa fsaM) s.heap.size = A at hD8 ⊢
  have hA : ∀ q : Nat, s.heap.size ≤ q → A q := fun q h => by rw [← hAe]; exact Or.inr h
  have hS : va_S A s.heap s.heap [] := va_S.rf
  have hP : va_P (dC, dI) vwCl [(aM, .inr (12, fsaM))] s.heap := hP0
  have hD : va_D A [(aM, .inr (12, fsaM))] := hD8
  have hl := lv_entry ([.ref aM, .int iFr, .int iTo, .int iHr, .int iTa]) (n := 5) (Nat.le_of_ble_eq_true rfl)
  rw [lg_entry_eq]
  generalize (lg_sl ([.ref aM, .int iFr, .int iTo, .int iHr, .int iTa]) ++ List.replicate (5 - (lg_sl ([.ref aM, .int iFr, .int iTo, .int iHr, .int iTa])).length) Slot.unset).toArray = ls at hl ⊢
  have hl : lv_has ls 5 [(0, .ref aM), (1, .int iFr), (2, .int iTo), (3, .int iHr), (4, .int iTa)] := hl
  clear hP0 hD8 hD0
  refine zH0 (fun H hP hS => ?_) hP hS
  refine lv_aload_n hx hb dX12_train_0 rfl (lv_at hl 0 rfl) ?_
  refine va_get (D := (dC, dI)) (ci := 12) (v := .int 0) (C := RX12) (T := TX12) (N := 87) hx hb hts in_m_train_12 hown hK hP 0 rfl rfl 44 (by decide) (hts (.fieldLink RX12 326 "LanternHouseModel" "trains" "I") (by decide +kernel)) (fun _ h9 => h9) haM_44 dX12_train_1 ?_
  refine lv_bipush (v := 16) hx hb dX12_train_4 (by decide) ?_
  refine lv_icmp_eq (tgt := 53) hx hb dX12_train_6 (by decide) (fun zc => absurd zc (by decide)) (fun _ => ?_)
  refine lv_aload_n hx hb dX12_train_9 rfl (lv_at hl 0 rfl) ?_
  refine lv_iload_n hx hb dX12_train_10 rfl (lv_at hl 1 rfl) ?_
  have hPc : va_P (dC, dI) vwCl (ws_m_isHall cB cI cJ cZ cQ aM iFr fsaM) H := hP.sub [0] rfl
  have hDc := hD.sub (ws' := (ws_m_isHall cB cI cJ cZ cQ aM iFr fsaM)) [0] (by decide) rfl
  have hFc := va_free (wc := (ws_m_isHall cB cI cJ cZ cQ aM iFr fsaM)) hD hS hA [0] rfl
  refine va_calli (va_runV (As := [.int iFr]) (rest := []) ⟨hx, hb, hml, hown, hts⟩ (m_isHall l dC dI cB cI cJ cZ cQ aM iFr fsaM H.size hlaM haM_43) (cwV 1 hts g_m_train_m_isHall_329 rfl rfl rfl (by decide +kernel) ⟨Nat.le_of_ble_eq_true rfl, Nat.le_of_ble_eq_true rfl⟩) ⟨zFB, va_recv hK hP (ci := 12) (q0 := 0) rfl rfl, fun U hU hW => zUp hU hW hPc hK hO hDc⟩ rfl rfl hl.1 rfl (lv_room (Nat.le_of_ble_eq_true rfl)) dX12_train_11 ⟨Nat.le_of_ble_eq_true rfl, Nat.le_of_ble_eq_true rfl⟩) hS (fun q _ h => hFc q h) hFc (fun r1 u t H1 locs ht hvm hw2 hB hz1 hk1 hS => ?_)
  obtain ⟨gs3, hgl4, hgf5, hP1, hD1⟩ := hB
  rw [ht] at hP1
  obtain ⟨hP, hD⟩ := va_join (wr := []) (w1 := [(aM, .inr (12, gs3))]) hP hD [0] [] rfl rfl (by decide) (by decide) hk1 hFc hP1 hD1
  generalize H1 = H at hP hS ⊢
  have hP : va_P (dC, dI) vwCl [(aM, .inr (12, gs3))] H := hP
  have hD : va_D A [(aM, .inr (12, gs3))] := hD
  rcases hw2 with ⟨rfl, c6⟩ | ⟨rfl, c7⟩
  · skip
    have ziFr : iFr = 0 := z_inj (by simp only [Int32.lt_iff_toInt_lt, Int32.le_iff_toInt_le, ← Int32.toInt_inj, zi_m1, zi_0, zi_1, zi_6, zi_8, zi_M, zi_16, zi_20, zi_23, zi_24, zi_27, zi_29, zi_30, zi_40, zi_500, zi_700, zi_1000] at c6 ⊢<;> omega)
    subst ziFr
    refine lv_if_eq (tgt := 53) hx hb dX12_train_14 (by decide) (fun zc => absurd zc (by decide)) (fun _ => ?_)
    refine lv_aload_n hx hb dX12_train_17 rfl (lv_at hl 0 rfl) ?_
    refine lv_iload_n hx hb dX12_train_18 rfl (lv_at hl 2 rfl) ?_
    have hPc : va_P (dC, dI) vwCl (ws_m_isHall cB cI cJ cZ cQ aM iTo gs3) H := hP.sub [0] rfl
    have hDc := hD.sub (ws' := (ws_m_isHall cB cI cJ cZ cQ aM iTo gs3)) [0] (by decide) rfl
    have hFc := va_free (wc := (ws_m_isHall cB cI cJ cZ cQ aM iTo gs3)) hD hS hA [0] rfl
    refine va_calli (va_runV (As := [.int iTo]) (rest := []) ⟨hx, hb, hml, hown, hts⟩ (m_isHall l dC dI cB cI cJ cZ cQ aM iTo gs3 H.size hgl4 ((hgf5 43 (by decide)).trans haM_43)) (cwV 1 hts g_m_train_m_isHall_329 rfl rfl rfl (by decide +kernel) ⟨Nat.le_of_ble_eq_true rfl, Nat.le_of_ble_eq_true rfl⟩) ⟨zFB, va_recv hK hP (ci := 12) (q0 := 0) rfl rfl, fun U hU hW => zUp hU hW hPc hK hO hDc⟩ rfl rfl hl.1 rfl (lv_room (Nat.le_of_ble_eq_true rfl)) dX12_train_19 ⟨Nat.le_of_ble_eq_true rfl, Nat.le_of_ble_eq_true rfl⟩) hS (fun q _ h => hFc q h) hFc (fun r8 u t H1 locs ht hvm hw9 hB hz1 hk1 hS => ?_)
    obtain ⟨gs10, hgl11, hgf12, hP1, hD1⟩ := hB
    rw [ht] at hP1
    obtain ⟨hP, hD⟩ := va_join (wr := []) (w1 := [(aM, .inr (12, gs10))]) hP hD [0] [] rfl rfl (by decide) (by decide) hk1 hFc hP1 hD1
    generalize H1 = H at hP hS ⊢
    have hP : va_P (dC, dI) vwCl [(aM, .inr (12, gs10))] H := hP
    have hD : va_D A [(aM, .inr (12, gs10))] := hD
    rcases hw9 with ⟨rfl, c13⟩ | ⟨rfl, c14⟩
    · skip
      have ziTo : iTo = 0 := z_inj (by simp only [Int32.lt_iff_toInt_lt, Int32.le_iff_toInt_le, ← Int32.toInt_inj, zi_m1, zi_0, zi_1, zi_6, zi_8, zi_M, zi_16, zi_20, zi_23, zi_24, zi_27, zi_29, zi_30, zi_40, zi_500, zi_700, zi_1000] at c6 c13 ⊢<;> omega)
      subst ziTo
      refine lv_if_eq (tgt := 53) hx hb dX12_train_22 (by decide) (fun zc => absurd zc (by decide)) (fun _ => ?_)
      refine lv_iload_n hx hb dX12_train_25 rfl (lv_at hl 1 rfl) ?_
      refine lv_iload_n hx hb dX12_train_26 rfl (lv_at hl 2 rfl) ?_
      refine lv_icmp_eq (tgt := 53) hx hb dX12_train_27 (by decide) (fun _ => ?_) (fun zc => absurd zc (by decide))
      refine lv_iconst (v := (-1)) hx hb dX12_train_53 (by decide) ?_
      exact W.iret (v := (-1)) hx hb hr (fun t ht hW => ⟨⟨(-1), (), rfl, rfl, trivial⟩, hS.F ht⟩) hS.2.2 dX12_train_54
    · skip
      refine lv_if_eq (tgt := 53) hx hb dX12_train_22 (by decide) (fun _ => ?_) (fun zc => absurd zc (by decide))
      refine lv_iconst (v := (-1)) hx hb dX12_train_53 (by decide) ?_
      exact W.iret (v := (-1)) hx hb hr (fun t ht hW => ⟨⟨(-1), (), rfl, rfl, trivial⟩, hS.F ht⟩) hS.2.2 dX12_train_54
  · skip
    refine lv_if_eq (tgt := 53) hx hb dX12_train_14 (by decide) (fun _ => ?_) (fun zc => absurd zc (by decide))
    refine lv_iconst (v := (-1)) hx hb dX12_train_53 (by decide) ?_
    exact W.iret (v := (-1)) hx hb hr (fun t ht hW => ⟨⟨(-1), (), rfl, rfl, trivial⟩, hS.F ht⟩) hS.2.2 dX12_train_54

def zs_m_plate : List Cond := .code yX12_plate cX12_plate 2 (some .int) :: (([.fieldLink RX12 320 "LanternHouseModel" "plates" "I", .fieldLink RX12 116 "LanternHouseModel" "kind" "[I"] : List Cond) ++ (wsX120 ++ []))
theorem gd_m_plate : (zs_m_plate).all goodWord = true := by decide +kernel
theorem in_m_plate_12 : ∀ w ∈ wsX120, w ∈ zs_m_plate := fun w h => List.mem_cons_of_mem _ (List.mem_append_right _ (List.mem_append_left _ h))
abbrev ws_m_plate (cB cI cJ cZ cQ : ClassId) (aM qKi : Nat) (iK : Int32) (fKi : Nat → Int32) (fsaM : List Value) : va_W := [(aM, .inr (12, fsaM)), (qKi, .inl (cI, 20, .inl fKi))]
set_option maxHeartbeats 4000000 in
set_option maxRecDepth 100000 in
theorem m_plate (l : Launch) (dC : Nat → ClassId) (dI : Nat → Nat → Nat) (cB cI cJ cZ cQ : ClassId) (aM qKi : Nat) (iK : Int32) (fKi : Nat → Int32) (fsaM : List Value) (sz : Nat) (hlaM : fsaM.length = 87) (haM_49 : fsaM[49]? = some (.int 0)) (haM_50 : fsaM[50]? = some (.ref qKi)) : Met l yX12_plate zs_m_plate ({ frames := 0, cells := 0, slots := 0, locals := 0 } : Room) (zPc [.ref aM, .int iK] (dC, dI) (zTY cB cI cJ cZ cQ) (ws_m_plate cB cI cJ cZ cQ aM qKi iK fKi fsaM) sz) (va_Qi (fun (zr : Int32) (_ : Unit) => zr = sp_plate iK) (fun (_ : Unit) (_ : State) => True) (va_A (ws_m_plate cB cI cJ cZ cQ aM qKi iK fKi fsaM) sz)) 0 0 (va_A (ws_m_plate cB cI cJ cZ cQ aM qKi iK fKi fsaM) sz) := by
  refine Met.ofW (cc := cX12_plate) (maxL := 2) (ret := (some .int)) (by decide) rfl ?_
  intro p e s m args below meth c s₁ B hml hv
  obtain ⟨rfl, hsz, hP0, hK, hO, hD0⟩ := hv
  have hx := B.exec
  have hb := B.bytes
  have hr := B.returns
  have hts := atoms_spec (ws := zs_m_plate) B.pre
  have hown : s.vm.findClass RX12 = some m.cls := findClass_of_methodNamed B.named
  have hlocks := B.notSynchronized
  subst hsz
  have hD8 := hD0.self (sz := s.heap.size)
  generalize hAe : va_A (ws_m_plate cB cI cJ cZ cQ aM qKi iK fKi fsaM) s.heap.size = A at hD8 ⊢
  have hA : ∀ q : Nat, s.heap.size ≤ q → A q := fun q h => by rw [← hAe]; exact Or.inr h
  have hS : va_S A s.heap s.heap [] := va_S.rf
  have hP : va_P (dC, dI) vwCl [(aM, .inr (12, fsaM)), (qKi, .inl (cI, 20, .inl fKi))] s.heap := hP0
  have hD : va_D A [(aM, .inr (12, fsaM)), (qKi, .inl (cI, 20, .inl fKi))] := hD8
  have hl := lv_entry ([.ref aM, .int iK]) (n := 2) (Nat.le_of_ble_eq_true rfl)
  rw [lg_entry_eq]
  generalize (lg_sl ([.ref aM, .int iK]) ++ List.replicate (2 - (lg_sl ([.ref aM, .int iK])).length) Slot.unset).toArray = ls at hl ⊢
  have hl : lv_has ls 2 [(0, .ref aM), (1, .int iK)] := hl
  clear hP0 hD8 hD0
  refine zH0 (fun H hP hS => ?_) hP hS
  refine lv_aload_n hx hb dX12_plate_0 rfl (lv_at hl 0 rfl) ?_
  refine va_get (D := (dC, dI)) (ci := 12) (v := .int 0) (C := RX12) (T := TX12) (N := 87) hx hb hts in_m_plate_12 hown hK hP 0 rfl rfl 49 (by decide) (hts (.fieldLink RX12 320 "LanternHouseModel" "plates" "I") (by decide +kernel)) (fun _ h9 => h9) haM_49 dX12_plate_1 ?_
  refine lv_bipush (v := 20) hx hb dX12_plate_4 (by decide) ?_
  refine lv_icmp_eq (tgt := 19) hx hb dX12_plate_6 (by decide) (fun zc => absurd zc (by decide)) (fun _ => ?_)
  refine lv_iload_n hx hb dX12_plate_9 rfl (lv_at hl 1 rfl) ?_
  refine lv_if_lt (tgt := 19) hx hb dX12_plate_10 (by decide) (fun c1 => ?_) (fun c1 => ?_)
  · skip
    refine lv_iconst (v := (-1)) hx hb dX12_plate_19 (by decide) ?_
    exact W.iret (v := (-1)) hx hb hr (fun t ht hW => ⟨⟨(-1), (), rfl, (by first | rfl | decide | (unfold sp_plate; split <;> rename_i zh <;> first | rfl | (exfalso; simp only [Int32.lt_iff_toInt_lt, Int32.le_iff_toInt_le, ← Int32.toInt_inj, zi_m1, zi_0, zi_1, zi_6, zi_8, zi_M, zi_16, zi_20, zi_23, zi_24, zi_27, zi_29, zi_30, zi_40, zi_500, zi_700, zi_1000, true_and, and_true] at zh c1 <;> omega))), trivial⟩, hS.F ht⟩) hS.2.2 dX12_plate_20
  · skip
    refine lv_iload_n hx hb dX12_plate_13 rfl (lv_at hl 1 rfl) ?_
    refine lv_bipush (v := 29) hx hb dX12_plate_14 (by decide) ?_
    refine lv_icmp_le (tgt := 21) hx hb dX12_plate_16 (by decide) (fun c2 => ?_) (fun c2 => ?_)
    · skip
      refine lv_aload_n hx hb dX12_plate_21 rfl (lv_at hl 0 rfl) ?_
      refine va_get (D := (dC, dI)) (ci := 12) (v := .ref qKi) (C := RX12) (T := TX12) (N := 87) hx hb hts in_m_plate_12 hown hK hP 0 rfl rfl 50 (by decide) (hts (.fieldLink RX12 116 "LanternHouseModel" "kind" "[I") (by decide +kernel)) (fun _ h9 => h9) haM_50 dX12_plate_22 ?_
      refine lv_aload_n hx hb dX12_plate_25 rfl (lv_at hl 0 rfl) ?_
      refine va_get (D := (dC, dI)) (ci := 12) (v := .int 0) (C := RX12) (T := TX12) (N := 87) hx hb hts in_m_plate_12 hown hK hP 0 rfl rfl 49 (by decide) (hts (.fieldLink RX12 320 "LanternHouseModel" "plates" "I") (by decide +kernel)) (fun _ h9 => h9) haM_49 dX12_plate_26 ?_
      refine lv_iload_n hx hb dX12_plate_29 rfl (lv_at hl 1 rfl) ?_
      refine z_iast hx hb hK hP hD hS 1 1 rfl rfl (show ¬ ((0 : Int32) < 0 ∨ 20 ≤ (0 : Int32).toNatClampNeg) from by decide) dX12_plate_30 (fun H locs g3 hg3 hP hD hS => ?_)
      have hP : va_P (dC, dI) vwCl [(aM, .inr (12, fsaM)), (qKi, .inl (cI, 20, .inl g3))] H := hP
      have hD : va_D A [(aM, .inr (12, fsaM)), (qKi, .inl (cI, 20, .inl g3))] := hD
      refine lv_aload_n hx hb dX12_plate_31 rfl (lv_at hl 0 rfl) ?_
      refine lv_dup hx hb dX12_plate_32 rfl ?_
      refine va_get (D := (dC, dI)) (ci := 12) (v := .int 0) (C := RX12) (T := TX12) (N := 87) hx hb hts in_m_plate_12 hown hK hP 0 rfl rfl 49 (by decide) (hts (.fieldLink RX12 320 "LanternHouseModel" "plates" "I") (by decide +kernel)) (fun _ h9 => h9) haM_49 dX12_plate_33 ?_
      refine lv_iconst (v := 1) hx hb dX12_plate_36 (by decide) ?_
      refine lv_iadd hx hb dX12_plate_37 ?_
      refine lv_topi (fun x4 ex4 => ?_)
      obtain rfl : x4 = 1 := ex4.trans (by decide)
      refine va_put (D := (dC, dI)) (ci := 12) (v := .int 1) (ty := .int) (C := RX12) (T := TX12) (N := 87) hx hb hts in_m_plate_12 tyX12 tyX12_ok nmX12 hown hK hP hD hS 0 rfl rfl 49 (by decide) (hts (.fieldLink RX12 320 "LanternHouseModel" "plates" "I") (by decide +kernel)) (fun _ h9 => h9) rfl (by decide +kernel) rfl rfl (by rw [hlaM]; decide) dX12_plate_38 (fun H locs hP hD hS => ?_)
      have hP : va_P (dC, dI) vwCl [(aM, .inr (12, (List.set fsaM 49 (.int 1)))), (qKi, .inl (cI, 20, .inl g3))] H := hP
      have hD : va_D A [(aM, .inr (12, (List.set fsaM 49 (.int 1)))), (qKi, .inl (cI, 20, .inl g3))] := hD
      refine lv_aload_n hx hb dX12_plate_41 rfl (lv_at hl 0 rfl) ?_
      refine va_get (D := (dC, dI)) (ci := 12) (v := .int 1) (C := RX12) (T := TX12) (N := 87) hx hb hts in_m_plate_12 hown hK hP 0 rfl rfl 49 (by decide) (hts (.fieldLink RX12 320 "LanternHouseModel" "plates" "I") (by decide +kernel)) (fun _ h9 => h9) (zset_eq (by rw [hlaM]; decide)) dX12_plate_42 ?_
      refine lv_iconst (v := 1) hx hb dX12_plate_45 (by decide) ?_
      refine lv_isub hx hb dX12_plate_46 ?_
      refine lv_topi (fun x5 ex5 => ?_)
      obtain rfl : x5 = 0 := ex5.trans (by decide)
      exact W.iret (v := 0) hx hb hr (fun t ht hW => ⟨⟨0, (), rfl, (by first | rfl | decide | (unfold sp_plate; split <;> rename_i zh <;> first | rfl | (exfalso; simp only [Int32.lt_iff_toInt_lt, Int32.le_iff_toInt_le, ← Int32.toInt_inj, zi_m1, zi_0, zi_1, zi_6, zi_8, zi_M, zi_16, zi_20, zi_23, zi_24, zi_27, zi_29, zi_30, zi_40, zi_500, zi_700, zi_1000, true_and, and_true] at zh c1 c2 <;> omega))), trivial⟩, hS.F ht⟩) hS.2.2 dX12_plate_47
    · skip
      refine lv_iconst (v := (-1)) hx hb dX12_plate_19 (by decide) ?_
      exact W.iret (v := (-1)) hx hb hr (fun t ht hW => ⟨⟨(-1), (), rfl, (by first | rfl | decide | (unfold sp_plate; split <;> rename_i zh <;> first | rfl | (exfalso; simp only [Int32.lt_iff_toInt_lt, Int32.le_iff_toInt_le, ← Int32.toInt_inj, zi_m1, zi_0, zi_1, zi_6, zi_8, zi_M, zi_16, zi_20, zi_23, zi_24, zi_27, zi_29, zi_30, zi_40, zi_500, zi_700, zi_1000, true_and, and_true] at zh c1 c2 <;> omega))), trivial⟩, hS.F ht⟩) hS.2.2 dX12_plate_20

def zs_m_cleaning : List Cond := .code yX12_cleaning cX12_cleaning 2 (some .boolean) :: (([.fieldLink RX12 332 "LanternHouseModel" "cleaning" "I"] : List Cond) ++ (wsX120 ++ []))
theorem gd_m_cleaning : (zs_m_cleaning).all goodWord = true := by decide +kernel
theorem in_m_cleaning_12 : ∀ w ∈ wsX120, w ∈ zs_m_cleaning := fun w h => List.mem_cons_of_mem _ (List.mem_append_right _ (List.mem_append_left _ h))
abbrev ws_m_cleaning (cB cI cJ cZ cQ : ClassId) (aM : Nat) (iHr : Int32) (fsaM : List Value) : va_W := [(aM, .inr (12, fsaM))]
set_option maxHeartbeats 4000000 in
set_option maxRecDepth 100000 in
theorem m_cleaning (l : Launch) (dC : Nat → ClassId) (dI : Nat → Nat → Nat) (cB cI cJ cZ cQ : ClassId) (aM : Nat) (iHr : Int32) (fsaM : List Value) (sz : Nat) (hlaM : fsaM.length = 87) : Met l yX12_cleaning zs_m_cleaning ({ frames := 0, cells := 0, slots := 0, locals := 0 } : Room) (zPc [.ref aM, .int iHr] (dC, dI) (zTY cB cI cJ cZ cQ) (ws_m_cleaning cB cI cJ cZ cQ aM iHr fsaM) sz) (va_Qi (fun (zr : Int32) (_ : Unit) => zr = sp_clean iHr) (fun (_ : Unit) (_ : State) => True) (va_A (ws_m_cleaning cB cI cJ cZ cQ aM iHr fsaM) sz)) 0 0 (va_A (ws_m_cleaning cB cI cJ cZ cQ aM iHr fsaM) sz) := by
  refine Met.ofW (cc := cX12_cleaning) (maxL := 2) (ret := (some .boolean)) (by decide) rfl ?_
  intro p e s m args below meth c s₁ B hml hv
  obtain ⟨rfl, hsz, hP0, hK, hO, hD0⟩ := hv
  have hx := B.exec
  have hb := B.bytes
  have hr := B.returns
  have hts := atoms_spec (ws := zs_m_cleaning) B.pre
  have hown : s.vm.findClass RX12 = some m.cls := findClass_of_methodNamed B.named
  have hlocks := B.notSynchronized
  subst hsz
  have hD8 := hD0.self (sz := s.heap.size)
  generalize hAe : va_A (ws_m_cleaning cB cI cJ cZ cQ aM iHr fsaM) s.heap.size = A at hD8 ⊢
  have hA : ∀ q : Nat, s.heap.size ≤ q → A q := fun q h => by rw [← hAe]; exact Or.inr h
  have hS : va_S A s.heap s.heap [] := va_S.rf
  have hP : va_P (dC, dI) vwCl [(aM, .inr (12, fsaM))] s.heap := hP0
  have hD : va_D A [(aM, .inr (12, fsaM))] := hD8
  have hl := lv_entry ([.ref aM, .int iHr]) (n := 2) (Nat.le_of_ble_eq_true rfl)
  rw [lg_entry_eq]
  generalize (lg_sl ([.ref aM, .int iHr]) ++ List.replicate (2 - (lg_sl ([.ref aM, .int iHr])).length) Slot.unset).toArray = ls at hl ⊢
  have hl : lv_has ls 2 [(0, .ref aM), (1, .int iHr)] := hl
  clear hP0 hD8 hD0
  refine zH0 (fun H hP hS => ?_) hP hS
  refine lv_iload_n hx hb dX12_cleaning_0 rfl (lv_at hl 1 rfl) ?_
  refine lv_if_lt (tgt := 10) hx hb dX12_cleaning_1 (by decide) (fun c1 => ?_) (fun c1 => ?_)
  · skip
    refine lv_iconst (v := 0) hx hb dX12_cleaning_10 (by decide) ?_
    exact W.zret (v := 0) hx hb hr rfl (fun t ht hW => ⟨⟨0, (), rfl, (by first | rfl | decide | (unfold sp_clean; split <;> rename_i zh <;> first | rfl | (exfalso; simp only [Int32.lt_iff_toInt_lt, Int32.le_iff_toInt_le, ← Int32.toInt_inj, zi_m1, zi_0, zi_1, zi_6, zi_8, zi_M, zi_16, zi_20, zi_23, zi_24, zi_27, zi_29, zi_30, zi_40, zi_500, zi_700, zi_1000, true_and, and_true] at zh c1 <;> omega))), trivial⟩, hS.F ht⟩) hS.2.2 dX12_cleaning_11
  · skip
    refine lv_iload_n hx hb dX12_cleaning_4 rfl (lv_at hl 1 rfl) ?_
    refine lv_bipush (v := 24) hx hb dX12_cleaning_5 (by decide) ?_
    refine lv_icmp_le (tgt := 12) hx hb dX12_cleaning_7 (by decide) (fun c2 => ?_) (fun c2 => ?_)
    · skip
      refine lv_aload_n hx hb dX12_cleaning_12 rfl (lv_at hl 0 rfl) ?_
      refine lv_iload_n hx hb dX12_cleaning_13 rfl (lv_at hl 1 rfl) ?_
      refine va_put (D := (dC, dI)) (ci := 12) (v := .int iHr) (ty := .int) (C := RX12) (T := TX12) (N := 87) hx hb hts in_m_cleaning_12 tyX12 tyX12_ok nmX12 hown hK hP hD hS 0 rfl rfl 51 (by decide) (hts (.fieldLink RX12 332 "LanternHouseModel" "cleaning" "I") (by decide +kernel)) (fun _ h9 => h9) rfl (by decide +kernel) rfl rfl (by rw [hlaM]; decide) dX12_cleaning_14 (fun H locs hP hD hS => ?_)
      have hP : va_P (dC, dI) vwCl [(aM, .inr (12, (List.set fsaM 51 (.int iHr))))] H := hP
      have hD : va_D A [(aM, .inr (12, (List.set fsaM 51 (.int iHr))))] := hD
      refine lv_iconst (v := 1) hx hb dX12_cleaning_17 (by decide) ?_
      exact W.zret (v := 1) hx hb hr rfl (fun t ht hW => ⟨⟨1, (), rfl, (by first | rfl | decide | (unfold sp_clean; split <;> rename_i zh <;> first | rfl | (exfalso; simp only [Int32.lt_iff_toInt_lt, Int32.le_iff_toInt_le, ← Int32.toInt_inj, zi_m1, zi_0, zi_1, zi_6, zi_8, zi_M, zi_16, zi_20, zi_23, zi_24, zi_27, zi_29, zi_30, zi_40, zi_500, zi_700, zi_1000, true_and, and_true] at zh c1 c2 <;> omega))), trivial⟩, hS.F ht⟩) hS.2.2 dX12_cleaning_18
    · skip
      refine lv_iconst (v := 0) hx hb dX12_cleaning_10 (by decide) ?_
      exact W.zret (v := 0) hx hb hr rfl (fun t ht hW => ⟨⟨0, (), rfl, (by first | rfl | decide | (unfold sp_clean; split <;> rename_i zh <;> first | rfl | (exfalso; simp only [Int32.lt_iff_toInt_lt, Int32.le_iff_toInt_le, ← Int32.toInt_inj, zi_m1, zi_0, zi_1, zi_6, zi_8, zi_M, zi_16, zi_20, zi_23, zi_24, zi_27, zi_29, zi_30, zi_40, zi_500, zi_700, zi_1000, true_and, and_true] at zh c1 c2 <;> omega))), trivial⟩, hS.F ht⟩) hS.2.2 dX12_cleaning_11

def zs_m_cancel : List Cond := .code yX12_cancel cX12_cancel 3 (some .int) :: (([.fieldLink RX12 323 "LanternHouseModel" "facts" "I", .fieldLink RX12 326 "LanternHouseModel" "trains" "I"] : List Cond) ++ (wsX120 ++ []))
theorem gd_m_cancel : (zs_m_cancel).all goodWord = true := by decide +kernel
theorem in_m_cancel_12 : ∀ w ∈ wsX120, w ∈ zs_m_cancel := fun w h => List.mem_cons_of_mem _ (List.mem_append_right _ (List.mem_append_left _ h))
abbrev ws_m_cancel (cB cI cJ cZ cQ : ClassId) (aM : Nat) (iT : Int32) (iD : Int32) (fsaM : List Value) : va_W := [(aM, .inr (12, fsaM))]
set_option maxHeartbeats 4000000 in
set_option maxRecDepth 100000 in
theorem m_cancel (l : Launch) (dC : Nat → ClassId) (dI : Nat → Nat → Nat) (cB cI cJ cZ cQ : ClassId) (aM : Nat) (iT : Int32) (iD : Int32) (fsaM : List Value) (sz : Nat) (hlaM : fsaM.length = 87) (haM_44 : fsaM[44]? = some (.int 0)) (haM_52 : fsaM[52]? = some (.int 0)) : Met l yX12_cancel zs_m_cancel ({ frames := 0, cells := 0, slots := 0, locals := 0 } : Room) (zPc [.ref aM, .int iT, .int iD] (dC, dI) (zTY cB cI cJ cZ cQ) (ws_m_cancel cB cI cJ cZ cQ aM iT iD fsaM) sz) (va_Qi (fun (zr : Int32) (_ : Unit) => zr = (-1)) (fun (_ : Unit) (_ : State) => True) (va_A (ws_m_cancel cB cI cJ cZ cQ aM iT iD fsaM) sz)) 0 0 (va_A (ws_m_cancel cB cI cJ cZ cQ aM iT iD fsaM) sz) := by
  refine Met.ofW (cc := cX12_cancel) (maxL := 3) (ret := (some .int)) (by decide) rfl ?_
  intro p e s m args below meth c s₁ B hml hv
  obtain ⟨rfl, hsz, hP0, hK, hO, hD0⟩ := hv
  have hx := B.exec
  have hb := B.bytes
  have hr := B.returns
  have hts := atoms_spec (ws := zs_m_cancel) B.pre
  have hown : s.vm.findClass RX12 = some m.cls := findClass_of_methodNamed B.named
  have hlocks := B.notSynchronized
  subst hsz
  have hD8 := hD0.self (sz := s.heap.size)
  generalize hAe : va_A (ws_m_cancel cB cI cJ cZ cQ aM iT iD fsaM) s.heap.size = A at hD8 ⊢
  have hA : ∀ q : Nat, s.heap.size ≤ q → A q := fun q h => by rw [← hAe]; exact Or.inr h
  have hS : va_S A s.heap s.heap [] := va_S.rf
  have hP : va_P (dC, dI) vwCl [(aM, .inr (12, fsaM))] s.heap := hP0
  have hD : va_D A [(aM, .inr (12, fsaM))] := hD8
  have hl := lv_entry ([.ref aM, .int iT, .int iD]) (n := 3) (Nat.le_of_ble_eq_true rfl)
  rw [lg_entry_eq]
  generalize (lg_sl ([.ref aM, .int iT, .int iD]) ++ List.replicate (3 - (lg_sl ([.ref aM, .int iT, .int iD])).length) Slot.unset).toArray = ls at hl ⊢
  have hl : lv_has ls 3 [(0, .ref aM), (1, .int iT), (2, .int iD)] := hl
  clear hP0 hD8 hD0
  refine zH0 (fun H hP hS => ?_) hP hS
  refine lv_aload_n hx hb dX12_cancel_0 rfl (lv_at hl 0 rfl) ?_
  refine va_get (D := (dC, dI)) (ci := 12) (v := .int 0) (C := RX12) (T := TX12) (N := 87) hx hb hts in_m_cancel_12 hown hK hP 0 rfl rfl 52 (by decide) (hts (.fieldLink RX12 323 "LanternHouseModel" "facts" "I") (by decide +kernel)) (fun _ h9 => h9) haM_52 dX12_cancel_1 ?_
  refine lv_sipush (v := 300) hx hb dX12_cancel_4 (by decide) ?_
  refine lv_icmp_eq (tgt := 32) hx hb dX12_cancel_7 (by decide) (fun zc => absurd zc (by decide)) (fun _ => ?_)
  refine lv_iload_n hx hb dX12_cancel_10 rfl (lv_at hl 1 rfl) ?_
  refine lv_if_lt (tgt := 32) hx hb dX12_cancel_11 (by decide) (fun c1 => ?_) (fun c1 => ?_)
  · skip
    refine lv_iconst (v := (-1)) hx hb dX12_cancel_32 (by decide) ?_
    refine lv_goto (tgt := 43) hx hb dX12_cancel_33 (by decide) ?_
    exact W.iret (v := (-1)) hx hb hr (fun t ht hW => ⟨⟨(-1), (), rfl, rfl, trivial⟩, hS.F ht⟩) hS.2.2 dX12_cancel_43
  · skip
    refine lv_iload_n hx hb dX12_cancel_14 rfl (lv_at hl 1 rfl) ?_
    refine lv_aload_n hx hb dX12_cancel_15 rfl (lv_at hl 0 rfl) ?_
    refine va_get (D := (dC, dI)) (ci := 12) (v := .int 0) (C := RX12) (T := TX12) (N := 87) hx hb hts in_m_cancel_12 hown hK hP 0 rfl rfl 44 (by decide) (hts (.fieldLink RX12 326 "LanternHouseModel" "trains" "I") (by decide +kernel)) (fun _ h9 => h9) haM_44 dX12_cancel_16 ?_
    refine lv_icmp_ge (tgt := 32) hx hb dX12_cancel_19 (by decide) (fun c2 => ?_) (fun c2 => ?_)
    · skip
      refine lv_iconst (v := (-1)) hx hb dX12_cancel_32 (by decide) ?_
      refine lv_goto (tgt := 43) hx hb dX12_cancel_33 (by decide) ?_
      exact W.iret (v := (-1)) hx hb hr (fun t ht hW => ⟨⟨(-1), (), rfl, rfl, trivial⟩, hS.F ht⟩) hS.2.2 dX12_cancel_43
    · skip
      exfalso
      simp only [Int32.lt_iff_toInt_lt, Int32.le_iff_toInt_le, ← Int32.toInt_inj, zi_m1, zi_0, zi_1, zi_6, zi_8, zi_M, zi_16, zi_20, zi_23, zi_24, zi_27, zi_29, zi_30, zi_40, zi_500, zi_700, zi_1000] at c1 c2 <;> omega

def zs_m_look : List Cond := .code yX12_look cX12_look 4 (some .int) :: (([.fieldLink RX12 323 "LanternHouseModel" "facts" "I", .methodLink RX12 338 yX12_isPlate, .instanceMethod yX12_isPlate, .selects RX12 yX12_isPlate yX12_isPlate, .initialized RX12] : List Cond) ++ (zs_m_isPlate ++ (wsX120 ++ [])))
theorem gd_m_look : (zs_m_look).all goodWord = true := by decide +kernel
theorem in_m_look_12 : ∀ w ∈ wsX120, w ∈ zs_m_look := fun w h => List.mem_cons_of_mem _ (List.mem_append_right _ (List.mem_append_right _ (List.mem_append_left _ h)))
theorem g_m_look_m_isPlate_338 : GoodIn zs_m_look (wsV RX12 338 RX12 yX12_isPlate zs_m_isPlate) := goodIn_app (goodIn_of _ (by decide +kernel)) (goodIn_sub (fun w h => List.mem_cons_of_mem _ (List.mem_append_right _ (List.mem_append_left _ h))) gd_m_isPlate)
abbrev ws_m_look (cB cI cJ cZ cQ : ClassId) (aM : Nat) (iP : Int32) (iHr : Int32) (iWh : Int32) (fsaM : List Value) : va_W := [(aM, .inr (12, fsaM))]
set_option maxHeartbeats 4000000 in
set_option maxRecDepth 100000 in
theorem m_look (l : Launch) (dC : Nat → ClassId) (dI : Nat → Nat → Nat) (cB cI cJ cZ cQ : ClassId) (aM : Nat) (iP : Int32) (iHr : Int32) (iWh : Int32) (fsaM : List Value) (sz : Nat) (hlaM : fsaM.length = 87) (haM_49 : fsaM[49]? = some (.int 0)) (haM_52 : fsaM[52]? = some (.int 0)) : Met l yX12_look zs_m_look ({ frames := 1, cells := 0, slots := 0, locals := 21 } : Room) (zPc [.ref aM, .int iP, .int iHr, .int iWh] (dC, dI) (zTY cB cI cJ cZ cQ) (ws_m_look cB cI cJ cZ cQ aM iP iHr iWh fsaM) sz) (va_Qi (fun (zr : Int32) (_ : Unit) => zr = (-1)) (fun (_ : Unit) (_ : State) => True) (va_A (ws_m_look cB cI cJ cZ cQ aM iP iHr iWh fsaM) sz)) 0 0 (va_A (ws_m_look cB cI cJ cZ cQ aM iP iHr iWh fsaM) sz) := by
  refine Met.ofW (cc := cX12_look) (maxL := 4) (ret := (some .int)) (by decide) rfl ?_
  intro p e s m args below meth c s₁ B hml hv
  obtain ⟨rfl, hsz, hP0, hK, hO, hD0⟩ := hv
  have hx := B.exec
  have hb := B.bytes
  have hr := B.returns
  have hts := atoms_spec (ws := zs_m_look) B.pre
  have hown : s.vm.findClass RX12 = some m.cls := findClass_of_methodNamed B.named
  have hlocks := B.notSynchronized
  subst hsz
  have hD8 := hD0.self (sz := s.heap.size)
  generalize hAe : va_A (ws_m_look cB cI cJ cZ cQ aM iP iHr iWh fsaM) s.heap.size = A at hD8 ⊢
  have hA : ∀ q : Nat, s.heap.size ≤ q → A q := fun q h => by rw [← hAe]; exact Or.inr h
  have hS : va_S A s.heap s.heap [] := va_S.rf
  have hP : va_P (dC, dI) vwCl [(aM, .inr (12, fsaM))] s.heap := hP0
  have hD : va_D A [(aM, .inr (12, fsaM))] := hD8
  have hl := lv_entry ([.ref aM, .int iP, .int iHr, .int iWh]) (n := 4) (Nat.le_of_ble_eq_true rfl)
  rw [lg_entry_eq]
  generalize (lg_sl ([.ref aM, .int iP, .int iHr, .int iWh]) ++ List.replicate (4 - (lg_sl ([.ref aM, .int iP, .int iHr, .int iWh])).length) Slot.unset).toArray = ls at hl ⊢
  have hl : lv_has ls 4 [(0, .ref aM), (1, .int iP), (2, .int iHr), (3, .int iWh)] := hl
  clear hP0 hD8 hD0
  refine zH0 (fun H hP hS => ?_) hP hS
  refine lv_aload_n hx hb dX12_look_0 rfl (lv_at hl 0 rfl) ?_
  refine va_get (D := (dC, dI)) (ci := 12) (v := .int 0) (C := RX12) (T := TX12) (N := 87) hx hb hts in_m_look_12 hown hK hP 0 rfl rfl 52 (by decide) (hts (.fieldLink RX12 323 "LanternHouseModel" "facts" "I") (by decide +kernel)) (fun _ h9 => h9) haM_52 dX12_look_1 ?_
  refine lv_sipush (v := 300) hx hb dX12_look_4 (by decide) ?_
  refine lv_icmp_eq (tgt := 25) hx hb dX12_look_7 (by decide) (fun zc => absurd zc (by decide)) (fun _ => ?_)
  refine lv_aload_n hx hb dX12_look_10 rfl (lv_at hl 0 rfl) ?_
  refine lv_iload_n hx hb dX12_look_11 rfl (lv_at hl 1 rfl) ?_
  have hPc : va_P (dC, dI) vwCl (ws_m_isPlate cB cI cJ cZ cQ aM iP fsaM) H := hP.sub [0] rfl
  have hDc := hD.sub (ws' := (ws_m_isPlate cB cI cJ cZ cQ aM iP fsaM)) [0] (by decide) rfl
  have hFc := va_free (wc := (ws_m_isPlate cB cI cJ cZ cQ aM iP fsaM)) hD hS hA [0] rfl
  refine va_calli (va_runV (As := [.int iP]) (rest := []) ⟨hx, hb, hml, hown, hts⟩ (m_isPlate l dC dI cB cI cJ cZ cQ aM iP fsaM H.size hlaM haM_49) (cwV 1 hts g_m_look_m_isPlate_338 rfl rfl rfl (by decide +kernel) ⟨Nat.le_of_ble_eq_true rfl, Nat.le_of_ble_eq_true rfl⟩) ⟨zFB, va_recv hK hP (ci := 12) (q0 := 0) rfl rfl, fun U hU hW => zUp hU hW hPc hK hO hDc⟩ rfl rfl hl.1 rfl (lv_room (Nat.le_of_ble_eq_true rfl)) dX12_look_12 ⟨Nat.le_of_ble_eq_true rfl, Nat.le_of_ble_eq_true rfl⟩) hS (fun q _ h => hFc q h) hFc (fun r1 u t H1 locs ht hvm hw2 hB hz1 hk1 hS => ?_)
  obtain ⟨gs3, hgl4, hgf5, hP1, hD1⟩ := hB
  rw [ht] at hP1
  obtain ⟨hP, hD⟩ := va_join (wr := []) (w1 := [(aM, .inr (12, gs3))]) hP hD [0] [] rfl rfl (by decide) (by decide) hk1 hFc hP1 hD1
  generalize H1 = H at hP hS ⊢
  have hP : va_P (dC, dI) vwCl [(aM, .inr (12, gs3))] H := hP
  have hD : va_D A [(aM, .inr (12, gs3))] := hD
  obtain rfl : r1 = 0 := hw2
  refine lv_if_eq (tgt := 25) hx hb dX12_look_15 (by decide) (fun _ => ?_) (fun zc => absurd zc (by decide))
  refine lv_iconst (v := (-1)) hx hb dX12_look_25 (by decide) ?_
  refine lv_goto (tgt := 44) hx hb dX12_look_26 (by decide) ?_
  exact W.iret (v := (-1)) hx hb hr (fun t ht hW => ⟨⟨(-1), (), rfl, rfl, trivial⟩, hS.F ht⟩) hS.2.2 dX12_look_44

def zs_m_show : List Cond := .code yX12_show cX12_show 7 (some .int) :: (([.fieldLink RX12 284 "LanternHouseModel" "shows" "I", .fieldLink RX12 40 "LanternHouseModel" "lectures" "[I", .fieldLink RX12 272 "LanternHouseModel" "live" "I", .methodLink RX12 329 yX12_isHall, .instanceMethod yX12_isHall, .selects RX12 yX12_isHall yX12_isHall, .initialized RX12] : List Cond) ++ (zs_m_isHall ++ (wsX120 ++ [])))
theorem gd_m_show : (zs_m_show).all goodWord = true := by decide +kernel
theorem in_m_show_12 : ∀ w ∈ wsX120, w ∈ zs_m_show := fun w h => List.mem_cons_of_mem _ (List.mem_append_right _ (List.mem_append_right _ (List.mem_append_left _ h)))
theorem g_m_show_m_isHall_329 : GoodIn zs_m_show (wsV RX12 329 RX12 yX12_isHall zs_m_isHall) := goodIn_app (goodIn_of _ (by decide +kernel)) (goodIn_sub (fun w h => List.mem_cons_of_mem _ (List.mem_append_right _ (List.mem_append_left _ h))) gd_m_isHall)
abbrev ws_m_show (cB cI cJ cZ cQ : ClassId) (aM qLe : Nat) (iX : Int32) (iH : Int32) (iL : Int32) (iG : Int32) (iWo : Int32) (fLe : Nat → Int32) (fsaM : List Value) : va_W := [(aM, .inr (12, fsaM)), (qLe, .inl (cI, 2, .inl fLe))]
set_option maxHeartbeats 4000000 in
set_option maxRecDepth 100000 in
theorem m_show (l : Launch) (dC : Nat → ClassId) (dI : Nat → Nat → Nat) (cB cI cJ cZ cQ : ClassId) (aM qLe : Nat) (iX : Int32) (iH : Int32) (iL : Int32) (iG : Int32) (iWo : Int32) (fLe : Nat → Int32) (fsaM : List Value) (sz : Nat) (hLe0 : fLe (0 : Int32).toNatClampNeg = 0) (hlaM : fsaM.length = 87) (haM_18 : fsaM[18]? = some (.int 0)) (haM_20 : fsaM[20]? = some (.ref qLe)) (haM_43 : fsaM[43]? = some (.int 1)) (haM_59 : fsaM[59]? = some (.int 0)) : Met l yX12_show zs_m_show ({ frames := 1, cells := 0, slots := 0, locals := 21 } : Room) (zPc [.ref aM, .int iX, .int iH, .int iL, .int iG, .int iWo] (dC, dI) (zTY cB cI cJ cZ cQ) (ws_m_show cB cI cJ cZ cQ aM qLe iX iH iL iG iWo fLe fsaM) sz) (va_Qi (fun (zr : Int32) (_ : Unit) => zr = (-1)) (fun (_ : Unit) (_ : State) => True) (va_A (ws_m_show cB cI cJ cZ cQ aM qLe iX iH iL iG iWo fLe fsaM) sz)) 0 0 (va_A (ws_m_show cB cI cJ cZ cQ aM qLe iX iH iL iG iWo fLe fsaM) sz) := by
  refine Met.ofW (cc := cX12_show) (maxL := 7) (ret := (some .int)) (by decide) rfl ?_
  intro p e s m args below meth c s₁ B hml hv
  obtain ⟨rfl, hsz, hP0, hK, hO, hD0⟩ := hv
  have hx := B.exec
  have hb := B.bytes
  have hr := B.returns
  have hts := atoms_spec (ws := zs_m_show) B.pre
  have hown : s.vm.findClass RX12 = some m.cls := findClass_of_methodNamed B.named
  have hlocks := B.notSynchronized
  subst hsz
  have hD8 := hD0.self (sz := s.heap.size)
  generalize hAe : va_A (ws_m_show cB cI cJ cZ cQ aM qLe iX iH iL iG iWo fLe fsaM) s.heap.size = A at hD8 ⊢
  have hA : ∀ q : Nat, s.heap.size ≤ q → A q := fun q h => by rw [← hAe]; exact Or.inr h
  have hS : va_S A s.heap s.heap [] := va_S.rf
  have hP : va_P (dC, dI) vwCl [(aM, .inr (12, fsaM)), (qLe, .inl (cI, 2, .inl fLe))] s.heap := hP0
  have hD : va_D A [(aM, .inr (12, fsaM)), (qLe, .inl (cI, 2, .inl fLe))] := hD8
  have hl := lv_entry ([.ref aM, .int iX, .int iH, .int iL, .int iG, .int iWo]) (n := 7) (Nat.le_of_ble_eq_true rfl)
  rw [lg_entry_eq]
  generalize (lg_sl ([.ref aM, .int iX, .int iH, .int iL, .int iG, .int iWo]) ++ List.replicate (7 - (lg_sl ([.ref aM, .int iX, .int iH, .int iL, .int iG, .int iWo])).length) Slot.unset).toArray = ls at hl ⊢
  have hl : lv_has ls 7 [(0, .ref aM), (1, .int iX), (2, .int iH), (3, .int iL), (4, .int iG), (5, .int iWo)] := hl
  clear hP0 hD8 hD0
  refine zH0 (fun H hP hS => ?_) hP hS
  refine lv_aload_n hx hb dX12_show_0 rfl (lv_at hl 0 rfl) ?_
  refine va_get (D := (dC, dI)) (ci := 12) (v := .int 0) (C := RX12) (T := TX12) (N := 87) hx hb hts in_m_show_12 hown hK hP 0 rfl rfl 59 (by decide) (hts (.fieldLink RX12 284 "LanternHouseModel" "shows" "I") (by decide +kernel)) (fun _ h9 => h9) haM_59 dX12_show_1 ?_
  refine lv_bipush (v := 8) hx hb dX12_show_4 (by decide) ?_
  refine lv_icmp_eq (tgt := 70) hx hb dX12_show_6 (by decide) (fun zc => absurd zc (by decide)) (fun _ => ?_)
  refine lv_iload_n hx hb dX12_show_9 rfl (lv_at hl 1 rfl) ?_
  refine lv_if_lt (tgt := 70) hx hb dX12_show_10 (by decide) (fun c1 => ?_) (fun c1 => ?_)
  · skip
    refine lv_iconst (v := (-1)) hx hb dX12_show_70 (by decide) ?_
    exact W.iret (v := (-1)) hx hb hr (fun t ht hW => ⟨⟨(-1), (), rfl, rfl, trivial⟩, hS.F ht⟩) hS.2.2 dX12_show_71
  · skip
    refine lv_iload_n hx hb dX12_show_13 rfl (lv_at hl 1 rfl) ?_
    refine lv_bipush (v := 27) hx hb dX12_show_14 (by decide) ?_
    refine lv_icmp_gt (tgt := 70) hx hb dX12_show_16 (by decide) (fun c2 => ?_) (fun c2 => ?_)
    · skip
      refine lv_iconst (v := (-1)) hx hb dX12_show_70 (by decide) ?_
      exact W.iret (v := (-1)) hx hb hr (fun t ht hW => ⟨⟨(-1), (), rfl, rfl, trivial⟩, hS.F ht⟩) hS.2.2 dX12_show_71
    · skip
      refine lv_aload_n hx hb dX12_show_19 rfl (lv_at hl 0 rfl) ?_
      refine lv_iload_n hx hb dX12_show_20 rfl (lv_at hl 2 rfl) ?_
      have hPc : va_P (dC, dI) vwCl (ws_m_isHall cB cI cJ cZ cQ aM iH fsaM) H := hP.sub [0] rfl
      have hDc := hD.sub (ws' := (ws_m_isHall cB cI cJ cZ cQ aM iH fsaM)) [0] (by decide) rfl
      have hFc := va_free (wc := (ws_m_isHall cB cI cJ cZ cQ aM iH fsaM)) hD hS hA [0] rfl
      refine va_calli (va_runV (As := [.int iH]) (rest := []) ⟨hx, hb, hml, hown, hts⟩ (m_isHall l dC dI cB cI cJ cZ cQ aM iH fsaM H.size hlaM haM_43) (cwV 1 hts g_m_show_m_isHall_329 rfl rfl rfl (by decide +kernel) ⟨Nat.le_of_ble_eq_true rfl, Nat.le_of_ble_eq_true rfl⟩) ⟨zFB, va_recv hK hP (ci := 12) (q0 := 0) rfl rfl, fun U hU hW => zUp hU hW hPc hK hO hDc⟩ rfl rfl hl.1 rfl (lv_room (Nat.le_of_ble_eq_true rfl)) dX12_show_21 ⟨Nat.le_of_ble_eq_true rfl, Nat.le_of_ble_eq_true rfl⟩) hS (fun q _ h => hFc q h) hFc (fun r3 u t H1 locs ht hvm hw4 hB hz1 hk1 hS => ?_)
      obtain ⟨gs5, hgl6, hgf7, hP1, hD1⟩ := hB
      rw [ht] at hP1
      obtain ⟨hP, hD⟩ := va_join (wr := [(qLe, .inl (cI, 2, .inl fLe))]) (w1 := [(aM, .inr (12, gs5))]) hP hD [0] [1] rfl rfl (by decide) (by decide) hk1 hFc hP1 hD1
      generalize H1 = H at hP hS ⊢
      have hP : va_P (dC, dI) vwCl [(qLe, .inl (cI, 2, .inl fLe)), (aM, .inr (12, gs5))] H := hP
      have hD : va_D A [(qLe, .inl (cI, 2, .inl fLe)), (aM, .inr (12, gs5))] := hD
      rcases hw4 with ⟨rfl, c8⟩ | ⟨rfl, c9⟩
      · skip
        have ziH : iH = 0 := z_inj (by simp only [Int32.lt_iff_toInt_lt, Int32.le_iff_toInt_le, ← Int32.toInt_inj, zi_m1, zi_0, zi_1, zi_6, zi_8, zi_M, zi_16, zi_20, zi_23, zi_24, zi_27, zi_29, zi_30, zi_40, zi_500, zi_700, zi_1000] at c1 c2 c8 ⊢<;> omega)
        subst ziH
        refine lv_if_eq (tgt := 70) hx hb dX12_show_24 (by decide) (fun zc => absurd zc (by decide)) (fun _ => ?_)
        refine lv_iload_n hx hb dX12_show_27 rfl (lv_at hl 3 rfl) ?_
        refine lv_if_lt (tgt := 70) hx hb dX12_show_28 (by decide) (fun c10 => ?_) (fun c10 => ?_)
        · skip
          refine lv_iconst (v := (-1)) hx hb dX12_show_70 (by decide) ?_
          exact W.iret (v := (-1)) hx hb hr (fun t ht hW => ⟨⟨(-1), (), rfl, rfl, trivial⟩, hS.F ht⟩) hS.2.2 dX12_show_71
        · skip
          refine lv_iload_n hx hb dX12_show_31 rfl (lv_at hl 3 rfl) ?_
          refine lv_aload_n hx hb dX12_show_32 rfl (lv_at hl 0 rfl) ?_
          refine va_get (D := (dC, dI)) (ci := 12) (v := .ref qLe) (C := RX12) (T := TX12) (N := 87) hx hb hts in_m_show_12 hown hK hP 1 rfl rfl 20 (by decide) (hts (.fieldLink RX12 40 "LanternHouseModel" "lectures" "[I") (by decide +kernel)) (fun _ h9 => h9) ((hgf7 20 (by decide)).trans haM_20) dX12_show_33 ?_
          refine lv_aload_n hx hb dX12_show_36 rfl (lv_at hl 0 rfl) ?_
          refine va_get (D := (dC, dI)) (ci := 12) (v := .int 0) (C := RX12) (T := TX12) (N := 87) hx hb hts in_m_show_12 hown hK hP 1 rfl rfl 18 (by decide) (hts (.fieldLink RX12 272 "LanternHouseModel" "live" "I") (by decide +kernel)) (fun _ h9 => h9) ((hgf7 18 (by decide)).trans haM_18) dX12_show_37 ?_
          refine z_iald hx hb hK hP 0 1 rfl rfl (show ¬ ((0 : Int32) < 0 ∨ 2 ≤ (0 : Int32).toNatClampNeg) from by decide) (v := 0) hLe0 dX12_show_40 ?_
          refine lv_icmp_ge (tgt := 70) hx hb dX12_show_41 (by decide) (fun c11 => ?_) (fun c11 => ?_)
          · skip
            refine lv_iconst (v := (-1)) hx hb dX12_show_70 (by decide) ?_
            exact W.iret (v := (-1)) hx hb hr (fun t ht hW => ⟨⟨(-1), (), rfl, rfl, trivial⟩, hS.F ht⟩) hS.2.2 dX12_show_71
          · skip
            exfalso
            simp only [Int32.lt_iff_toInt_lt, Int32.le_iff_toInt_le, ← Int32.toInt_inj, zi_m1, zi_0, zi_1, zi_6, zi_8, zi_M, zi_16, zi_20, zi_23, zi_24, zi_27, zi_29, zi_30, zi_40, zi_500, zi_700, zi_1000] at c1 c2 c8 c10 c11 <;> omega
      · skip
        refine lv_if_eq (tgt := 70) hx hb dX12_show_24 (by decide) (fun _ => ?_) (fun zc => absurd zc (by decide))
        refine lv_iconst (v := (-1)) hx hb dX12_show_70 (by decide) ?_
        exact W.iret (v := (-1)) hx hb hr (fun t ht hW => ⟨⟨(-1), (), rfl, rfl, trivial⟩, hS.F ht⟩) hS.2.2 dX12_show_71

def zs_m_way : List Cond := .code yX12_way cX12_way 6 (some .int) :: (([.constant RX12 351 (1000000), .methodLink RX12 329 yX12_isHall, .instanceMethod yX12_isHall, .selects RX12 yX12_isHall yX12_isHall, .initialized RX12, .methodLink RX12 341 yX12_isHour, .static yX12_isHour, .methodLink RX12 344 yX12_isKnown, .instanceMethod yX12_isKnown, .selects RX12 yX12_isKnown yX12_isKnown, .methodLink RX12 355 yX12_knows, .instanceMethod yX12_knows, .selects RX12 yX12_knows yX12_knows, .methodLink RX12 358 yX12_wayTo, .instanceMethod yX12_wayTo, .selects RX12 yX12_wayTo yX12_wayTo] : List Cond) ++ (zs_m_isHall ++ (zs_m_isHour ++ (zs_m_isKnown ++ (zs_m_knows ++ (zs_m_wayTo ++ []))))))
theorem gd_m_way : (zs_m_way).all goodWord = true := by decide +kernel
theorem g_m_way_m_isHall_329 : GoodIn zs_m_way (wsV RX12 329 RX12 yX12_isHall zs_m_isHall) := goodIn_app (goodIn_of _ (by decide +kernel)) (goodIn_sub (fun w h => List.mem_cons_of_mem _ (List.mem_append_right _ (List.mem_append_left _ h))) gd_m_isHall)
theorem g_m_way_m_isHour_341 : GoodIn zs_m_way (va_wsS RX12 341 yX12_isHour zs_m_isHour) := goodIn_app (goodIn_of _ (by decide +kernel)) (goodIn_sub (fun w h => List.mem_cons_of_mem _ (List.mem_append_right _ (List.mem_append_right _ (List.mem_append_left _ h)))) gd_m_isHour)
theorem g_m_way_m_isKnown_344 : GoodIn zs_m_way (wsV RX12 344 RX12 yX12_isKnown zs_m_isKnown) := goodIn_app (goodIn_of _ (by decide +kernel)) (goodIn_sub (fun w h => List.mem_cons_of_mem _ (List.mem_append_right _ (List.mem_append_right _ (List.mem_append_right _ (List.mem_append_left _ h))))) gd_m_isKnown)
theorem g_m_way_m_knows_355 : GoodIn zs_m_way (wsV RX12 355 RX12 yX12_knows zs_m_knows) := goodIn_app (goodIn_of _ (by decide +kernel)) (goodIn_sub (fun w h => List.mem_cons_of_mem _ (List.mem_append_right _ (List.mem_append_right _ (List.mem_append_right _ (List.mem_append_right _ (List.mem_append_left _ h)))))) gd_m_knows)
theorem g_m_way_m_wayTo_358 : GoodIn zs_m_way (wsV RX12 358 RX12 yX12_wayTo zs_m_wayTo) := goodIn_app (goodIn_of _ (by decide +kernel)) (goodIn_sub (fun w h => List.mem_cons_of_mem _ (List.mem_append_right _ (List.mem_append_right _ (List.mem_append_right _ (List.mem_append_right _ (List.mem_append_right _ (List.mem_append_left _ h))))))) gd_m_wayTo)
abbrev ws_m_way (cB cI cJ cZ cQ : ClassId) (aM qSt qSo : Nat) (iFr : Int32) (iTo : Int32) (iHr : Int32) (iN : Int32) (fSt : Nat → Int32) (fSo : Nat → Int32) (fsaM : List Value) : va_W := [(aM, .inr (12, fsaM)), (qSt, .inl (cZ, 656, .inl fSt)), (qSo, .inl (cI, 6, .inl fSo))]
set_option maxHeartbeats 4000000 in
set_option maxRecDepth 100000 in
theorem m_way (l : Launch) (dC : Nat → ClassId) (dI : Nat → Nat → Nat) (cB cI cJ cZ cQ : ClassId) (aM qSt qSo : Nat) (iFr : Int32) (iTo : Int32) (iHr : Int32) (iN : Int32) (fSt : Nat → Int32) (fSo : Nat → Int32) (fsaM : List Value) (sz : Nat) (hlaM : fsaM.length = 87) (haM_43 : fsaM[43]? = some (.int 1)) (haM_44 : fsaM[44]? = some (.int 0)) (haM_52 : fsaM[52]? = some (.int 0)) (haM_56 : fsaM[56]? = some (.int (-1))) (haM_57 : fsaM[57]? = some (.ref qSt)) (haM_58 : fsaM[58]? = some (.ref qSo)) : Met l yX12_way zs_m_way ({ frames := 1, cells := 0, slots := 0, locals := 27 } : Room) (zPc [.ref aM, .int iFr, .int iTo, .int iHr, .int iN] (dC, dI) (zTY cB cI cJ cZ cQ) (ws_m_way cB cI cJ cZ cQ aM qSt qSo iFr iTo iHr iN fSt fSo fsaM) sz) (va_Qi (fun (zr : Int32) (_ : Unit) => zr = sp_way iFr iTo iHr iN) (fun (_ : Unit) (_ : State) => True) (va_A (ws_m_way cB cI cJ cZ cQ aM qSt qSo iFr iTo iHr iN fSt fSo fsaM) sz)) 0 0 (va_A (ws_m_way cB cI cJ cZ cQ aM qSt qSo iFr iTo iHr iN fSt fSo fsaM) sz) := by
  refine Met.ofW (cc := cX12_way) (maxL := 6) (ret := (some .int)) (by decide) rfl ?_
  intro p e s m args below meth c s₁ B hml hv
  obtain ⟨rfl, hsz, hP0, hK, hO, hD0⟩ := hv
  have hx := B.exec
  have hb := B.bytes
  have hr := B.returns
  have hts := atoms_spec (ws := zs_m_way) B.pre
  have hown : s.vm.findClass RX12 = some m.cls := findClass_of_methodNamed B.named
  have hlocks := B.notSynchronized
  subst hsz
  have hD8 := hD0.self (sz := s.heap.size)
  generalize hAe : va_A (ws_m_way cB cI cJ cZ cQ aM qSt qSo iFr iTo iHr iN fSt fSo fsaM) s.heap.size = A at hD8 ⊢
  have hA : ∀ q : Nat, s.heap.size ≤ q → A q := fun q h => by rw [← hAe]; exact Or.inr h
  have hS : va_S A s.heap s.heap [] := va_S.rf
  have hP : va_P (dC, dI) vwCl [(aM, .inr (12, fsaM)), (qSt, .inl (cZ, 656, .inl fSt)), (qSo, .inl (cI, 6, .inl fSo))] s.heap := hP0
  have hD : va_D A [(aM, .inr (12, fsaM)), (qSt, .inl (cZ, 656, .inl fSt)), (qSo, .inl (cI, 6, .inl fSo))] := hD8
  have hl := lv_entry ([.ref aM, .int iFr, .int iTo, .int iHr, .int iN]) (n := 6) (Nat.le_of_ble_eq_true rfl)
  rw [lg_entry_eq]
  generalize (lg_sl ([.ref aM, .int iFr, .int iTo, .int iHr, .int iN]) ++ List.replicate (6 - (lg_sl ([.ref aM, .int iFr, .int iTo, .int iHr, .int iN])).length) Slot.unset).toArray = ls at hl ⊢
  have hl : lv_has ls 6 [(0, .ref aM), (1, .int iFr), (2, .int iTo), (3, .int iHr), (4, .int iN)] := hl
  clear hP0 hD8 hD0
  refine zH0 (fun H hP hS => ?_) hP hS
  refine lv_aload_n hx hb dX12_way_0 rfl (lv_at hl 0 rfl) ?_
  refine lv_iload_n hx hb dX12_way_1 rfl (lv_at hl 1 rfl) ?_
  have hPc : va_P (dC, dI) vwCl (ws_m_isHall cB cI cJ cZ cQ aM iFr fsaM) H := hP.sub [0] rfl
  have hDc := hD.sub (ws' := (ws_m_isHall cB cI cJ cZ cQ aM iFr fsaM)) [0] (by decide) rfl
  have hFc := va_free (wc := (ws_m_isHall cB cI cJ cZ cQ aM iFr fsaM)) hD hS hA [0] rfl
  refine va_calli (va_runV (As := [.int iFr]) (rest := []) ⟨hx, hb, hml, hown, hts⟩ (m_isHall l dC dI cB cI cJ cZ cQ aM iFr fsaM H.size hlaM haM_43) (cwV 1 hts g_m_way_m_isHall_329 rfl rfl rfl (by decide +kernel) ⟨Nat.le_of_ble_eq_true rfl, Nat.le_of_ble_eq_true rfl⟩) ⟨zFB, va_recv hK hP (ci := 12) (q0 := 0) rfl rfl, fun U hU hW => zUp hU hW hPc hK hO hDc⟩ rfl rfl hl.1 rfl (lv_room (Nat.le_of_ble_eq_true rfl)) dX12_way_2 ⟨Nat.le_of_ble_eq_true rfl, Nat.le_of_ble_eq_true rfl⟩) hS (fun q _ h => hFc q h) hFc (fun r1 u t H1 locs ht hvm hw2 hB hz1 hk1 hS => ?_)
  obtain ⟨gs3, hgl4, hgf5, hP1, hD1⟩ := hB
  rw [ht] at hP1
  obtain ⟨hP, hD⟩ := va_join (wr := [(qSt, .inl (cZ, 656, .inl fSt)), (qSo, .inl (cI, 6, .inl fSo))]) (w1 := [(aM, .inr (12, gs3))]) hP hD [0] [1, 2] rfl rfl (by decide) (by decide) hk1 hFc hP1 hD1
  generalize H1 = H at hP hS ⊢
  have hP : va_P (dC, dI) vwCl [(qSt, .inl (cZ, 656, .inl fSt)), (qSo, .inl (cI, 6, .inl fSo)), (aM, .inr (12, gs3))] H := hP
  have hD : va_D A [(qSt, .inl (cZ, 656, .inl fSt)), (qSo, .inl (cI, 6, .inl fSo)), (aM, .inr (12, gs3))] := hD
  rcases hw2 with ⟨rfl, c6⟩ | ⟨rfl, c7⟩
  · skip
    have ziFr : iFr = 0 := z_inj (by simp only [Int32.lt_iff_toInt_lt, Int32.le_iff_toInt_le, ← Int32.toInt_inj, zi_m1, zi_0, zi_1, zi_6, zi_8, zi_M, zi_16, zi_20, zi_23, zi_24, zi_27, zi_29, zi_30, zi_40, zi_500, zi_700, zi_1000] at c6 ⊢<;> omega)
    subst ziFr
    refine lv_if_eq (tgt := 32) hx hb dX12_way_5 (by decide) (fun zc => absurd zc (by decide)) (fun _ => ?_)
    refine lv_aload_n hx hb dX12_way_8 rfl (lv_at hl 0 rfl) ?_
    refine lv_iload_n hx hb dX12_way_9 rfl (lv_at hl 2 rfl) ?_
    have hPc : va_P (dC, dI) vwCl (ws_m_isHall cB cI cJ cZ cQ aM iTo gs3) H := hP.sub [2] rfl
    have hDc := hD.sub (ws' := (ws_m_isHall cB cI cJ cZ cQ aM iTo gs3)) [2] (by decide) rfl
    have hFc := va_free (wc := (ws_m_isHall cB cI cJ cZ cQ aM iTo gs3)) hD hS hA [2] rfl
    refine va_calli (va_runV (As := [.int iTo]) (rest := []) ⟨hx, hb, hml, hown, hts⟩ (m_isHall l dC dI cB cI cJ cZ cQ aM iTo gs3 H.size hgl4 ((hgf5 43 (by decide)).trans haM_43)) (cwV 1 hts g_m_way_m_isHall_329 rfl rfl rfl (by decide +kernel) ⟨Nat.le_of_ble_eq_true rfl, Nat.le_of_ble_eq_true rfl⟩) ⟨zFB, va_recv hK hP (ci := 12) (q0 := 2) rfl rfl, fun U hU hW => zUp hU hW hPc hK hO hDc⟩ rfl rfl hl.1 rfl (lv_room (Nat.le_of_ble_eq_true rfl)) dX12_way_10 ⟨Nat.le_of_ble_eq_true rfl, Nat.le_of_ble_eq_true rfl⟩) hS (fun q _ h => hFc q h) hFc (fun r8 u t H1 locs ht hvm hw9 hB hz1 hk1 hS => ?_)
    obtain ⟨gs10, hgl11, hgf12, hP1, hD1⟩ := hB
    rw [ht] at hP1
    obtain ⟨hP, hD⟩ := va_join (wr := [(qSt, .inl (cZ, 656, .inl fSt)), (qSo, .inl (cI, 6, .inl fSo))]) (w1 := [(aM, .inr (12, gs10))]) hP hD [2] [0, 1] rfl rfl (by decide) (by decide) hk1 hFc hP1 hD1
    generalize H1 = H at hP hS ⊢
    have hP : va_P (dC, dI) vwCl [(qSt, .inl (cZ, 656, .inl fSt)), (qSo, .inl (cI, 6, .inl fSo)), (aM, .inr (12, gs10))] H := hP
    have hD : va_D A [(qSt, .inl (cZ, 656, .inl fSt)), (qSo, .inl (cI, 6, .inl fSo)), (aM, .inr (12, gs10))] := hD
    rcases hw9 with ⟨rfl, c13⟩ | ⟨rfl, c14⟩
    · skip
      have ziTo : iTo = 0 := z_inj (by simp only [Int32.lt_iff_toInt_lt, Int32.le_iff_toInt_le, ← Int32.toInt_inj, zi_m1, zi_0, zi_1, zi_6, zi_8, zi_M, zi_16, zi_20, zi_23, zi_24, zi_27, zi_29, zi_30, zi_40, zi_500, zi_700, zi_1000] at c6 c13 ⊢<;> omega)
      subst ziTo
      refine lv_if_eq (tgt := 32) hx hb dX12_way_13 (by decide) (fun zc => absurd zc (by decide)) (fun _ => ?_)
      refine lv_iload_n hx hb dX12_way_16 rfl (lv_at hl 3 rfl) ?_
      have hPc : va_P (dC, dI) vwCl (ws_m_isHour cB cI cJ cZ cQ iHr) H := hP.sub [] rfl
      have hDc := hD.sub (ws' := (ws_m_isHour cB cI cJ cZ cQ iHr)) [] (by decide) rfl
      have hFc := va_free (wc := (ws_m_isHour cB cI cJ cZ cQ iHr)) hD hS hA [] rfl
      refine va_calli (va_runS (As := [.int iHr]) (rest := []) ⟨hx, hb, hml, hown, hts⟩ (m_isHour l dC dI cB cI cJ cZ cQ iHr H.size) (va_cwS 1 hts g_m_way_m_isHour_341 rfl rfl rfl (by decide +kernel) ⟨Nat.le_of_ble_eq_true rfl, Nat.le_of_ble_eq_true rfl⟩) ⟨zFB, fun U hU hW => zUp hU hW hPc hK hO hDc⟩ rfl rfl hl.1 rfl (lv_room (Nat.le_of_ble_eq_true rfl)) dX12_way_17 ⟨Nat.le_of_ble_eq_true rfl, Nat.le_of_ble_eq_true rfl⟩) hS (fun q _ h => hFc q h) hFc (fun r15 u t H1 locs ht hvm hw16 hB hz1 hk1 hS => ?_)
      have hP1 : va_P (dC, dI) vwCl [] H1 := zNilP
      have hD1 : va_D (va_A (ws_m_isHour cB cI cJ cZ cQ iHr) H.size) [] := zNilD
      obtain ⟨hP, hD⟩ := va_join (wr := [(qSt, .inl (cZ, 656, .inl fSt)), (qSo, .inl (cI, 6, .inl fSo)), (aM, .inr (12, gs10))]) (w1 := []) hP hD [] [0, 1, 2] rfl rfl (by decide) (by decide) hk1 hFc hP1 hD1
      generalize H1 = H at hP hS ⊢
      have hP : va_P (dC, dI) vwCl [(qSt, .inl (cZ, 656, .inl fSt)), (qSo, .inl (cI, 6, .inl fSo)), (aM, .inr (12, gs10))] H := hP
      have hD : va_D A [(qSt, .inl (cZ, 656, .inl fSt)), (qSo, .inl (cI, 6, .inl fSo)), (aM, .inr (12, gs10))] := hD
      rcases hw16 with ⟨rfl, c17, c18⟩ | ⟨rfl, c19⟩ | ⟨rfl, c20⟩
      · skip
        refine lv_if_eq (tgt := 32) hx hb dX12_way_20 (by decide) (fun zc => absurd zc (by decide)) (fun _ => ?_)
        refine lv_aload_n hx hb dX12_way_23 rfl (lv_at hl 0 rfl) ?_
        refine lv_iload hx hb dX12_way_24 (lv_at hl 4 rfl) ?_
        have hPc : va_P (dC, dI) vwCl (ws_m_isKnown cB cI cJ cZ cQ aM iN gs10) H := hP.sub [2] rfl
        have hDc := hD.sub (ws' := (ws_m_isKnown cB cI cJ cZ cQ aM iN gs10)) [2] (by decide) rfl
        have hFc := va_free (wc := (ws_m_isKnown cB cI cJ cZ cQ aM iN gs10)) hD hS hA [2] rfl
        refine va_calli (va_runV (As := [.int iN]) (rest := []) ⟨hx, hb, hml, hown, hts⟩ (m_isKnown l dC dI cB cI cJ cZ cQ aM iN gs10 H.size hgl11 ((hgf12 52 (by decide)).trans ((hgf5 52 (by decide)).trans haM_52))) (cwV 1 hts g_m_way_m_isKnown_344 rfl rfl rfl (by decide +kernel) ⟨Nat.le_of_ble_eq_true rfl, Nat.le_of_ble_eq_true rfl⟩) ⟨zFB, va_recv hK hP (ci := 12) (q0 := 2) rfl rfl, fun U hU hW => zUp hU hW hPc hK hO hDc⟩ rfl rfl hl.1 rfl (lv_room (Nat.le_of_ble_eq_true rfl)) dX12_way_26 ⟨Nat.le_of_ble_eq_true rfl, Nat.le_of_ble_eq_true rfl⟩) hS (fun q _ h => hFc q h) hFc (fun r21 u t H1 locs ht hvm hw22 hB hz1 hk1 hS => ?_)
        obtain ⟨gs23, hgl24, hgf25, hP1, hD1⟩ := hB
        rw [ht] at hP1
        obtain ⟨hP, hD⟩ := va_join (wr := [(qSt, .inl (cZ, 656, .inl fSt)), (qSo, .inl (cI, 6, .inl fSo))]) (w1 := [(aM, .inr (12, gs23))]) hP hD [2] [0, 1] rfl rfl (by decide) (by decide) hk1 hFc hP1 hD1
        generalize H1 = H at hP hS ⊢
        have hP : va_P (dC, dI) vwCl [(qSt, .inl (cZ, 656, .inl fSt)), (qSo, .inl (cI, 6, .inl fSo)), (aM, .inr (12, gs23))] H := hP
        have hD : va_D A [(qSt, .inl (cZ, 656, .inl fSt)), (qSo, .inl (cI, 6, .inl fSo)), (aM, .inr (12, gs23))] := hD
        rcases hw22 with ⟨rfl, c26⟩ | ⟨rfl, c27⟩
        · skip
          have ziN : iN = 0 := z_inj (by simp only [Int32.lt_iff_toInt_lt, Int32.le_iff_toInt_le, ← Int32.toInt_inj, zi_m1, zi_0, zi_1, zi_6, zi_8, zi_M, zi_16, zi_20, zi_23, zi_24, zi_27, zi_29, zi_30, zi_40, zi_500, zi_700, zi_1000] at c6 c13 c17 c18 c26 ⊢<;> omega)
          subst ziN
          refine lv_if_ne (tgt := 34) hx hb dX12_way_29 (by decide) (fun _ => ?_) (fun zc => absurd zc (by decide))
          refine lv_aload_n hx hb dX12_way_34 rfl (lv_at hl 0 rfl) ?_
          refine lv_iload hx hb dX12_way_35 (lv_at hl 4 rfl) ?_
          have hPc : va_P (dC, dI) vwCl (ws_m_knows cB cI cJ cZ cQ aM qSt fSt gs23) H := hP.sub [2, 0] rfl
          have hDc := hD.sub (ws' := (ws_m_knows cB cI cJ cZ cQ aM qSt fSt gs23)) [2, 0] (by decide) rfl
          have hFc := va_free (wc := (ws_m_knows cB cI cJ cZ cQ aM qSt fSt gs23)) hD hS hA [2, 0] rfl
          refine va_callv (va_runV (As := [.int 0]) (rest := []) ⟨hx, hb, hml, hown, hts⟩ (m_knows l dC dI cB cI cJ cZ cQ aM qSt fSt gs23 H.size hgl24 ((hgf25 56 (by decide)).trans ((hgf12 56 (by decide)).trans ((hgf5 56 (by decide)).trans haM_56))) ((hgf25 57 (by decide)).trans ((hgf12 57 (by decide)).trans ((hgf5 57 (by decide)).trans haM_57)))) (cwV 1 hts g_m_way_m_knows_355 rfl rfl rfl (by decide +kernel) ⟨Nat.le_of_ble_eq_true rfl, Nat.le_of_ble_eq_true rfl⟩) ⟨zFB, va_recv hK hP (ci := 12) (q0 := 2) rfl rfl, fun U hU hW => zUp hU hW hPc hK hO hDc⟩ rfl rfl hl.1 rfl (lv_room (Nat.le_of_ble_eq_true rfl)) dX12_way_37 ⟨Nat.le_of_ble_eq_true rfl, Nat.le_of_ble_eq_true rfl⟩) hS (fun q _ h => hFc q h) hFc (fun u t H1 locs ht hvm hw29 hB hz1 hk1 hS => ?_)
          obtain ⟨gs30, hgl31, hgf32, hP1, hD1⟩ := hB
          rw [ht] at hP1
          obtain ⟨hP, hD⟩ := va_join (wr := [(qSo, .inl (cI, 6, .inl fSo))]) (w1 := [(aM, .inr (12, gs30))]) hP hD [2, 0] [1] rfl rfl (by decide) (by decide) hk1 hFc hP1 hD1
          generalize H1 = H at hP hS ⊢
          have hP : va_P (dC, dI) vwCl [(qSo, .inl (cI, 6, .inl fSo)), (aM, .inr (12, gs30))] H := hP
          have hD : va_D A [(qSo, .inl (cI, 6, .inl fSo)), (aM, .inr (12, gs30))] := hD
          refine lv_aload_n hx hb dX12_way_40 rfl (lv_at hl 0 rfl) ?_
          refine lv_iload_n hx hb dX12_way_41 rfl (lv_at hl 1 rfl) ?_
          refine lv_iload_n hx hb dX12_way_42 rfl (lv_at hl 2 rfl) ?_
          refine lv_iload_n hx hb dX12_way_43 rfl (lv_at hl 3 rfl) ?_
          have hPc : va_P (dC, dI) vwCl (ws_m_wayTo cB cI cJ cZ cQ aM qSo iHr fSo gs30) H := hP.sub [1, 0] rfl
          have hDc := hD.sub (ws' := (ws_m_wayTo cB cI cJ cZ cQ aM qSo iHr fSo gs30)) [1, 0] (by decide) rfl
          have hFc := va_free (wc := (ws_m_wayTo cB cI cJ cZ cQ aM qSo iHr fSo gs30)) hD hS hA [1, 0] rfl
          refine va_calli (va_runV (As := [.int 0, .int 0, .int iHr]) (rest := []) ⟨hx, hb, hml, hown, hts⟩ (m_wayTo l dC dI cB cI cJ cZ cQ aM qSo iHr fSo gs30 H.size hgl31 ((hgf32 44 (by decide)).trans ((hgf25 44 (by decide)).trans ((hgf12 44 (by decide)).trans ((hgf5 44 (by decide)).trans haM_44)))) ((hgf32 58 (by decide)).trans ((hgf25 58 (by decide)).trans ((hgf12 58 (by decide)).trans ((hgf5 58 (by decide)).trans haM_58))))) (cwV 3 hts g_m_way_m_wayTo_358 rfl rfl rfl (by decide +kernel) ⟨Nat.le_of_ble_eq_true rfl, Nat.le_of_ble_eq_true rfl⟩) ⟨zFB, va_recv hK hP (ci := 12) (q0 := 1) rfl rfl, fun U hU hW => zUp hU hW hPc hK hO hDc⟩ rfl rfl hl.1 rfl (lv_room (Nat.le_of_ble_eq_true rfl)) dX12_way_44 ⟨Nat.le_of_ble_eq_true rfl, Nat.le_of_ble_eq_true rfl⟩) hS (fun q _ h => hFc q h) hFc (fun r33 u t H1 locs ht hvm hw34 hB hz1 hk1 hS => ?_)
          have hP1 : va_P (dC, dI) vwCl [] H1 := zNilP
          have hD1 : va_D (va_A (ws_m_wayTo cB cI cJ cZ cQ aM qSo iHr fSo gs30) H.size) [] := zNilD
          obtain ⟨hP, hD⟩ := va_join (wr := []) (w1 := []) hP hD [1, 0] [] rfl rfl (by decide) (by decide) hk1 hFc hP1 hD1
          generalize H1 = H at hP hS ⊢
          have hP : va_P (dC, dI) vwCl [] H := hP
          have hD : va_D A [] := hD
          rw [hw34]
          refine lv_istore (lv' := [(5, .int iHr), (0, .ref aM), (1, .int 0), (2, .int 0), (3, .int iHr), (4, .int 0)]) hx hb dX12_way_47 hl (by decide) rfl (fun ls hl => ?_)
          refine lv_iload hx hb dX12_way_49 (lv_at hl 0 rfl) ?_
          refine lv_ldcw (v := 1000000) hx hb hown (hts (.constant RX12 351 (1000000)) (by decide +kernel)) dX12_way_51 ?_
          refine lv_icmp_ne (tgt := 61) hx hb dX12_way_54 (by decide) (fun c35 => ?_) (fun c35 => ?_)
          · skip
            refine lv_iload hx hb dX12_way_61 (lv_at hl 0 rfl) ?_
            exact W.iret (v := iHr) hx hb hr (fun t ht hW => ⟨⟨iHr, (), rfl, (by first | rfl | decide | (unfold sp_way; split <;> rename_i zh <;> first | rfl | (exfalso; simp only [Int32.lt_iff_toInt_lt, Int32.le_iff_toInt_le, ← Int32.toInt_inj, zi_m1, zi_0, zi_1, zi_6, zi_8, zi_M, zi_16, zi_20, zi_23, zi_24, zi_27, zi_29, zi_30, zi_40, zi_500, zi_700, zi_1000, true_and, and_true] at zh c6 c13 c17 c18 c26 c35 <;> omega))), trivial⟩, hS.F ht⟩) hS.2.2 dX12_way_63
          · skip
            exfalso
            simp only [Int32.lt_iff_toInt_lt, Int32.le_iff_toInt_le, ← Int32.toInt_inj, zi_m1, zi_0, zi_1, zi_6, zi_8, zi_M, zi_16, zi_20, zi_23, zi_24, zi_27, zi_29, zi_30, zi_40, zi_500, zi_700, zi_1000] at c6 c13 c17 c18 c26 c35 <;> omega
        · skip
          refine lv_if_ne (tgt := 34) hx hb dX12_way_29 (by decide) (fun zc => absurd zc (by decide)) (fun _ => ?_)
          refine lv_iconst (v := (-1)) hx hb dX12_way_32 (by decide) ?_
          exact W.iret (v := (-1)) hx hb hr (fun t ht hW => ⟨⟨(-1), (), rfl, (by first | rfl | decide | (unfold sp_way; split <;> rename_i zh <;> first | rfl | (exfalso; simp only [Int32.lt_iff_toInt_lt, Int32.le_iff_toInt_le, ← Int32.toInt_inj, zi_m1, zi_0, zi_1, zi_6, zi_8, zi_M, zi_16, zi_20, zi_23, zi_24, zi_27, zi_29, zi_30, zi_40, zi_500, zi_700, zi_1000, true_and, and_true] at zh c6 c13 c17 c18 c27 <;> omega))), trivial⟩, hS.F ht⟩) hS.2.2 dX12_way_33
      · skip
        refine lv_if_eq (tgt := 32) hx hb dX12_way_20 (by decide) (fun _ => ?_) (fun zc => absurd zc (by decide))
        refine lv_iconst (v := (-1)) hx hb dX12_way_32 (by decide) ?_
        exact W.iret (v := (-1)) hx hb hr (fun t ht hW => ⟨⟨(-1), (), rfl, (by first | rfl | decide | (unfold sp_way; split <;> rename_i zh <;> first | rfl | (exfalso; simp only [Int32.lt_iff_toInt_lt, Int32.le_iff_toInt_le, ← Int32.toInt_inj, zi_m1, zi_0, zi_1, zi_6, zi_8, zi_M, zi_16, zi_20, zi_23, zi_24, zi_27, zi_29, zi_30, zi_40, zi_500, zi_700, zi_1000, true_and, and_true] at zh c6 c13 c19 <;> omega))), trivial⟩, hS.F ht⟩) hS.2.2 dX12_way_33
      · skip
        refine lv_if_eq (tgt := 32) hx hb dX12_way_20 (by decide) (fun _ => ?_) (fun zc => absurd zc (by decide))
        refine lv_iconst (v := (-1)) hx hb dX12_way_32 (by decide) ?_
        exact W.iret (v := (-1)) hx hb hr (fun t ht hW => ⟨⟨(-1), (), rfl, (by first | rfl | decide | (unfold sp_way; split <;> rename_i zh <;> first | rfl | (exfalso; simp only [Int32.lt_iff_toInt_lt, Int32.le_iff_toInt_le, ← Int32.toInt_inj, zi_m1, zi_0, zi_1, zi_6, zi_8, zi_M, zi_16, zi_20, zi_23, zi_24, zi_27, zi_29, zi_30, zi_40, zi_500, zi_700, zi_1000, true_and, and_true] at zh c6 c13 c20 <;> omega))), trivial⟩, hS.F ht⟩) hS.2.2 dX12_way_33
    · skip
      refine lv_if_eq (tgt := 32) hx hb dX12_way_13 (by decide) (fun _ => ?_) (fun zc => absurd zc (by decide))
      refine lv_iconst (v := (-1)) hx hb dX12_way_32 (by decide) ?_
      exact W.iret (v := (-1)) hx hb hr (fun t ht hW => ⟨⟨(-1), (), rfl, (by first | rfl | decide | (unfold sp_way; split <;> rename_i zh <;> first | rfl | (exfalso; simp only [Int32.lt_iff_toInt_lt, Int32.le_iff_toInt_le, ← Int32.toInt_inj, zi_m1, zi_0, zi_1, zi_6, zi_8, zi_M, zi_16, zi_20, zi_23, zi_24, zi_27, zi_29, zi_30, zi_40, zi_500, zi_700, zi_1000, true_and, and_true] at zh c6 c14 <;> omega))), trivial⟩, hS.F ht⟩) hS.2.2 dX12_way_33
  · skip
    refine lv_if_eq (tgt := 32) hx hb dX12_way_5 (by decide) (fun _ => ?_) (fun zc => absurd zc (by decide))
    refine lv_iconst (v := (-1)) hx hb dX12_way_32 (by decide) ?_
    exact W.iret (v := (-1)) hx hb hr (fun t ht hW => ⟨⟨(-1), (), rfl, (by first | rfl | decide | (unfold sp_way; split <;> rename_i zh <;> first | rfl | (exfalso; simp only [Int32.lt_iff_toInt_lt, Int32.le_iff_toInt_le, ← Int32.toInt_inj, zi_m1, zi_0, zi_1, zi_6, zi_8, zi_M, zi_16, zi_20, zi_23, zi_24, zi_27, zi_29, zi_30, zi_40, zi_500, zi_700, zi_1000, true_and, and_true] at zh c7 <;> omega))), trivial⟩, hS.F ht⟩) hS.2.2 dX12_way_33

def zs_m_broken : List Cond := .code yX12_broken cX12_broken 4 (some .int) :: (([.methodLink RX12 338 yX12_isPlate, .instanceMethod yX12_isPlate, .selects RX12 yX12_isPlate yX12_isPlate, .initialized RX12] : List Cond) ++ (zs_m_isPlate ++ []))
theorem gd_m_broken : (zs_m_broken).all goodWord = true := by decide +kernel
theorem g_m_broken_m_isPlate_338 : GoodIn zs_m_broken (wsV RX12 338 RX12 yX12_isPlate zs_m_isPlate) := goodIn_app (goodIn_of _ (by decide +kernel)) (goodIn_sub (fun w h => List.mem_cons_of_mem _ (List.mem_append_right _ (List.mem_append_left _ h))) gd_m_isPlate)
abbrev ws_m_broken (cB cI cJ cZ cQ : ClassId) (aM : Nat) (iP : Int32) (iHr : Int32) (iN : Int32) (fsaM : List Value) : va_W := [(aM, .inr (12, fsaM))]
set_option maxHeartbeats 4000000 in
set_option maxRecDepth 100000 in
theorem m_broken (l : Launch) (dC : Nat → ClassId) (dI : Nat → Nat → Nat) (cB cI cJ cZ cQ : ClassId) (aM : Nat) (iP : Int32) (iHr : Int32) (iN : Int32) (fsaM : List Value) (sz : Nat) (hlaM : fsaM.length = 87) (haM_49 : fsaM[49]? = some (.int 0)) : Met l yX12_broken zs_m_broken ({ frames := 1, cells := 0, slots := 0, locals := 21 } : Room) (zPc [.ref aM, .int iP, .int iHr, .int iN] (dC, dI) (zTY cB cI cJ cZ cQ) (ws_m_broken cB cI cJ cZ cQ aM iP iHr iN fsaM) sz) (va_Qi (fun (zr : Int32) (_ : Unit) => zr = (-1)) (fun (_ : Unit) (_ : State) => True) (va_A (ws_m_broken cB cI cJ cZ cQ aM iP iHr iN fsaM) sz)) 0 0 (va_A (ws_m_broken cB cI cJ cZ cQ aM iP iHr iN fsaM) sz) := by
  refine Met.ofW (cc := cX12_broken) (maxL := 4) (ret := (some .int)) (by decide) rfl ?_
  intro p e s m args below meth c s₁ B hml hv
  obtain ⟨rfl, hsz, hP0, hK, hO, hD0⟩ := hv
  have hx := B.exec
  have hb := B.bytes
  have hr := B.returns
  have hts := atoms_spec (ws := zs_m_broken) B.pre
  have hown : s.vm.findClass RX12 = some m.cls := findClass_of_methodNamed B.named
  have hlocks := B.notSynchronized
  subst hsz
  have hD8 := hD0.self (sz := s.heap.size)
  generalize hAe : va_A (ws_m_broken cB cI cJ cZ cQ aM iP iHr iN fsaM) s.heap.size = A at hD8 ⊢
  have hA : ∀ q : Nat, s.heap.size ≤ q → A q := fun q h => by rw [← hAe]; exact Or.inr h
  have hS : va_S A s.heap s.heap [] := va_S.rf
  have hP : va_P (dC, dI) vwCl [(aM, .inr (12, fsaM))] s.heap := hP0
  have hD : va_D A [(aM, .inr (12, fsaM))] := hD8
  have hl := lv_entry ([.ref aM, .int iP, .int iHr, .int iN]) (n := 4) (Nat.le_of_ble_eq_true rfl)
  rw [lg_entry_eq]
  generalize (lg_sl ([.ref aM, .int iP, .int iHr, .int iN]) ++ List.replicate (4 - (lg_sl ([.ref aM, .int iP, .int iHr, .int iN])).length) Slot.unset).toArray = ls at hl ⊢
  have hl : lv_has ls 4 [(0, .ref aM), (1, .int iP), (2, .int iHr), (3, .int iN)] := hl
  clear hP0 hD8 hD0
  refine zH0 (fun H hP hS => ?_) hP hS
  refine lv_aload_n hx hb dX12_broken_0 rfl (lv_at hl 0 rfl) ?_
  refine lv_iload_n hx hb dX12_broken_1 rfl (lv_at hl 1 rfl) ?_
  have hPc : va_P (dC, dI) vwCl (ws_m_isPlate cB cI cJ cZ cQ aM iP fsaM) H := hP.sub [0] rfl
  have hDc := hD.sub (ws' := (ws_m_isPlate cB cI cJ cZ cQ aM iP fsaM)) [0] (by decide) rfl
  have hFc := va_free (wc := (ws_m_isPlate cB cI cJ cZ cQ aM iP fsaM)) hD hS hA [0] rfl
  refine va_calli (va_runV (As := [.int iP]) (rest := []) ⟨hx, hb, hml, hown, hts⟩ (m_isPlate l dC dI cB cI cJ cZ cQ aM iP fsaM H.size hlaM haM_49) (cwV 1 hts g_m_broken_m_isPlate_338 rfl rfl rfl (by decide +kernel) ⟨Nat.le_of_ble_eq_true rfl, Nat.le_of_ble_eq_true rfl⟩) ⟨zFB, va_recv hK hP (ci := 12) (q0 := 0) rfl rfl, fun U hU hW => zUp hU hW hPc hK hO hDc⟩ rfl rfl hl.1 rfl (lv_room (Nat.le_of_ble_eq_true rfl)) dX12_broken_2 ⟨Nat.le_of_ble_eq_true rfl, Nat.le_of_ble_eq_true rfl⟩) hS (fun q _ h => hFc q h) hFc (fun r1 u t H1 locs ht hvm hw2 hB hz1 hk1 hS => ?_)
  obtain ⟨gs3, hgl4, hgf5, hP1, hD1⟩ := hB
  rw [ht] at hP1
  obtain ⟨hP, hD⟩ := va_join (wr := []) (w1 := [(aM, .inr (12, gs3))]) hP hD [0] [] rfl rfl (by decide) (by decide) hk1 hFc hP1 hD1
  generalize H1 = H at hP hS ⊢
  have hP : va_P (dC, dI) vwCl [(aM, .inr (12, gs3))] H := hP
  have hD : va_D A [(aM, .inr (12, gs3))] := hD
  obtain rfl : r1 = 0 := hw2
  refine lv_if_eq (tgt := 41) hx hb dX12_broken_5 (by decide) (fun _ => ?_) (fun zc => absurd zc (by decide))
  refine lv_iconst (v := (-1)) hx hb dX12_broken_41 (by decide) ?_
  exact W.iret (v := (-1)) hx hb hr (fun t ht hW => ⟨⟨(-1), (), rfl, rfl, trivial⟩, hS.F ht⟩) hS.2.2 dX12_broken_42

def zs_m_can : List Cond := .code yX12_can cX12_can 3 (some .int) :: (([.fieldLink RX12 284 "LanternHouseModel" "shows" "I", .methodLink RX12 344 yX12_isKnown, .instanceMethod yX12_isKnown, .selects RX12 yX12_isKnown yX12_isKnown, .initialized RX12, .methodLink RX12 355 yX12_knows, .instanceMethod yX12_knows, .selects RX12 yX12_knows yX12_knows, .methodLink RX12 375 yX12_keeps, .instanceMethod yX12_keeps, .selects RX12 yX12_keeps yX12_keeps, .methodLink RX12 378 yX12_worthOf, .instanceMethod yX12_worthOf, .selects RX12 yX12_worthOf yX12_worthOf] : List Cond) ++ (zs_m_isKnown ++ (zs_m_knows ++ (zs_m_keeps ++ (zs_m_worthOf ++ (wsX120 ++ []))))))
theorem gd_m_can : (zs_m_can).all goodWord = true := by decide +kernel
theorem in_m_can_12 : ∀ w ∈ wsX120, w ∈ zs_m_can := fun w h => List.mem_cons_of_mem _ (List.mem_append_right _ (List.mem_append_right _ (List.mem_append_right _ (List.mem_append_right _ (List.mem_append_right _ (List.mem_append_left _ h))))))
theorem g_m_can_m_isKnown_344 : GoodIn zs_m_can (wsV RX12 344 RX12 yX12_isKnown zs_m_isKnown) := goodIn_app (goodIn_of _ (by decide +kernel)) (goodIn_sub (fun w h => List.mem_cons_of_mem _ (List.mem_append_right _ (List.mem_append_left _ h))) gd_m_isKnown)
theorem g_m_can_m_knows_355 : GoodIn zs_m_can (wsV RX12 355 RX12 yX12_knows zs_m_knows) := goodIn_app (goodIn_of _ (by decide +kernel)) (goodIn_sub (fun w h => List.mem_cons_of_mem _ (List.mem_append_right _ (List.mem_append_right _ (List.mem_append_left _ h)))) gd_m_knows)
theorem g_m_can_m_keeps_375 : GoodIn zs_m_can (wsV RX12 375 RX12 yX12_keeps zs_m_keeps) := goodIn_app (goodIn_of _ (by decide +kernel)) (goodIn_sub (fun w h => List.mem_cons_of_mem _ (List.mem_append_right _ (List.mem_append_right _ (List.mem_append_right _ (List.mem_append_left _ h))))) gd_m_keeps)
theorem g_m_can_m_worthOf_378 : GoodIn zs_m_can (wsV RX12 378 RX12 yX12_worthOf zs_m_worthOf) := goodIn_app (goodIn_of _ (by decide +kernel)) (goodIn_sub (fun w h => List.mem_cons_of_mem _ (List.mem_append_right _ (List.mem_append_right _ (List.mem_append_right _ (List.mem_append_right _ (List.mem_append_left _ h)))))) gd_m_worthOf)
abbrev ws_m_can (cB cI cJ cZ cQ : ClassId) (aM qSt : Nat) (iSe : Int32) (iN : Int32) (fSt : Nat → Int32) (fsaM : List Value) : va_W := [(aM, .inr (12, fsaM)), (qSt, .inl (cZ, 656, .inl fSt))]
set_option maxHeartbeats 4000000 in
set_option maxRecDepth 100000 in
theorem m_can (l : Launch) (dC : Nat → ClassId) (dI : Nat → Nat → Nat) (cB cI cJ cZ cQ : ClassId) (aM qSt : Nat) (iSe : Int32) (iN : Int32) (fSt : Nat → Int32) (fsaM : List Value) (sz : Nat) (hlaM : fsaM.length = 87) (haM_49 : fsaM[49]? = some (.int 0)) (haM_52 : fsaM[52]? = some (.int 0)) (haM_56 : fsaM[56]? = some (.int (-1))) (haM_57 : fsaM[57]? = some (.ref qSt)) (haM_59 : fsaM[59]? = some (.int 0)) : Met l yX12_can zs_m_can ({ frames := 1, cells := 0, slots := 0, locals := 24 } : Room) (zPc [.ref aM, .int iSe, .int iN] (dC, dI) (zTY cB cI cJ cZ cQ) (ws_m_can cB cI cJ cZ cQ aM qSt iSe iN fSt fsaM) sz) (va_Qi (fun (zr : Int32) (_ : Unit) => zr = sp_can iSe iN) (fun (_ : Unit) (_ : State) => True) (va_A (ws_m_can cB cI cJ cZ cQ aM qSt iSe iN fSt fsaM) sz)) 0 0 (va_A (ws_m_can cB cI cJ cZ cQ aM qSt iSe iN fSt fsaM) sz) := by
  refine Met.ofW (cc := cX12_can) (maxL := 3) (ret := (some .int)) (by decide) rfl ?_
  intro p e s m args below meth c s₁ B hml hv
  obtain ⟨rfl, hsz, hP0, hK, hO, hD0⟩ := hv
  have hx := B.exec
  have hb := B.bytes
  have hr := B.returns
  have hts := atoms_spec (ws := zs_m_can) B.pre
  have hown : s.vm.findClass RX12 = some m.cls := findClass_of_methodNamed B.named
  have hlocks := B.notSynchronized
  subst hsz
  have hD8 := hD0.self (sz := s.heap.size)
  generalize hAe : va_A (ws_m_can cB cI cJ cZ cQ aM qSt iSe iN fSt fsaM) s.heap.size = A at hD8 ⊢
  have hA : ∀ q : Nat, s.heap.size ≤ q → A q := fun q h => by rw [← hAe]; exact Or.inr h
  have hS : va_S A s.heap s.heap [] := va_S.rf
  have hP : va_P (dC, dI) vwCl [(aM, .inr (12, fsaM)), (qSt, .inl (cZ, 656, .inl fSt))] s.heap := hP0
  have hD : va_D A [(aM, .inr (12, fsaM)), (qSt, .inl (cZ, 656, .inl fSt))] := hD8
  have hl := lv_entry ([.ref aM, .int iSe, .int iN]) (n := 3) (Nat.le_of_ble_eq_true rfl)
  rw [lg_entry_eq]
  generalize (lg_sl ([.ref aM, .int iSe, .int iN]) ++ List.replicate (3 - (lg_sl ([.ref aM, .int iSe, .int iN])).length) Slot.unset).toArray = ls at hl ⊢
  have hl : lv_has ls 3 [(0, .ref aM), (1, .int iSe), (2, .int iN)] := hl
  clear hP0 hD8 hD0
  refine zH0 (fun H hP hS => ?_) hP hS
  refine lv_iload_n hx hb dX12_can_0 rfl (lv_at hl 1 rfl) ?_
  refine lv_if_lt (tgt := 22) hx hb dX12_can_1 (by decide) (fun c1 => ?_) (fun c1 => ?_)
  · skip
    refine lv_iconst (v := (-1)) hx hb dX12_can_22 (by decide) ?_
    exact W.iret (v := (-1)) hx hb hr (fun t ht hW => ⟨⟨(-1), (), rfl, (by first | rfl | decide | (unfold sp_can; split <;> rename_i zh <;> first | rfl | (exfalso; simp only [Int32.lt_iff_toInt_lt, Int32.le_iff_toInt_le, ← Int32.toInt_inj, zi_m1, zi_0, zi_1, zi_6, zi_8, zi_M, zi_16, zi_20, zi_23, zi_24, zi_27, zi_29, zi_30, zi_40, zi_500, zi_700, zi_1000, true_and, and_true] at zh c1 <;> omega))), trivial⟩, hS.F ht⟩) hS.2.2 dX12_can_23
  · skip
    refine lv_iload_n hx hb dX12_can_4 rfl (lv_at hl 1 rfl) ?_
    refine lv_iconst (v := 1) hx hb dX12_can_5 (by decide) ?_
    refine lv_aload_n hx hb dX12_can_6 rfl (lv_at hl 0 rfl) ?_
    refine va_get (D := (dC, dI)) (ci := 12) (v := .int 0) (C := RX12) (T := TX12) (N := 87) hx hb hts in_m_can_12 hown hK hP 0 rfl rfl 59 (by decide) (hts (.fieldLink RX12 284 "LanternHouseModel" "shows" "I") (by decide +kernel)) (fun _ h9 => h9) haM_59 dX12_can_7 ?_
    refine lv_ishl hx hb dX12_can_10 ?_
    refine lv_topi (fun x2 ex2 => ?_)
    obtain rfl : x2 = 1 := ex2.trans (by decide)
    refine lv_icmp_ge (tgt := 22) hx hb dX12_can_11 (by decide) (fun c3 => ?_) (fun c3 => ?_)
    · skip
      refine lv_iconst (v := (-1)) hx hb dX12_can_22 (by decide) ?_
      exact W.iret (v := (-1)) hx hb hr (fun t ht hW => ⟨⟨(-1), (), rfl, (by first | rfl | decide | (unfold sp_can; split <;> rename_i zh <;> first | rfl | (exfalso; simp only [Int32.lt_iff_toInt_lt, Int32.le_iff_toInt_le, ← Int32.toInt_inj, zi_m1, zi_0, zi_1, zi_6, zi_8, zi_M, zi_16, zi_20, zi_23, zi_24, zi_27, zi_29, zi_30, zi_40, zi_500, zi_700, zi_1000, true_and, and_true] at zh c1 c3 <;> omega))), trivial⟩, hS.F ht⟩) hS.2.2 dX12_can_23
    · skip
      have ziSe : iSe = 0 := z_inj (by simp only [Int32.lt_iff_toInt_lt, Int32.le_iff_toInt_le, ← Int32.toInt_inj, zi_m1, zi_0, zi_1, zi_6, zi_8, zi_M, zi_16, zi_20, zi_23, zi_24, zi_27, zi_29, zi_30, zi_40, zi_500, zi_700, zi_1000] at c1 c3 ⊢<;> omega)
      subst ziSe
      refine lv_aload_n hx hb dX12_can_14 rfl (lv_at hl 0 rfl) ?_
      refine lv_iload_n hx hb dX12_can_15 rfl (lv_at hl 2 rfl) ?_
      have hPc : va_P (dC, dI) vwCl (ws_m_isKnown cB cI cJ cZ cQ aM iN fsaM) H := hP.sub [0] rfl
      have hDc := hD.sub (ws' := (ws_m_isKnown cB cI cJ cZ cQ aM iN fsaM)) [0] (by decide) rfl
      have hFc := va_free (wc := (ws_m_isKnown cB cI cJ cZ cQ aM iN fsaM)) hD hS hA [0] rfl
      refine va_calli (va_runV (As := [.int iN]) (rest := []) ⟨hx, hb, hml, hown, hts⟩ (m_isKnown l dC dI cB cI cJ cZ cQ aM iN fsaM H.size hlaM haM_52) (cwV 1 hts g_m_can_m_isKnown_344 rfl rfl rfl (by decide +kernel) ⟨Nat.le_of_ble_eq_true rfl, Nat.le_of_ble_eq_true rfl⟩) ⟨zFB, va_recv hK hP (ci := 12) (q0 := 0) rfl rfl, fun U hU hW => zUp hU hW hPc hK hO hDc⟩ rfl rfl hl.1 rfl (lv_room (Nat.le_of_ble_eq_true rfl)) dX12_can_16 ⟨Nat.le_of_ble_eq_true rfl, Nat.le_of_ble_eq_true rfl⟩) hS (fun q _ h => hFc q h) hFc (fun r4 u t H1 locs ht hvm hw5 hB hz1 hk1 hS => ?_)
      obtain ⟨gs6, hgl7, hgf8, hP1, hD1⟩ := hB
      rw [ht] at hP1
      obtain ⟨hP, hD⟩ := va_join (wr := [(qSt, .inl (cZ, 656, .inl fSt))]) (w1 := [(aM, .inr (12, gs6))]) hP hD [0] [1] rfl rfl (by decide) (by decide) hk1 hFc hP1 hD1
      generalize H1 = H at hP hS ⊢
      have hP : va_P (dC, dI) vwCl [(qSt, .inl (cZ, 656, .inl fSt)), (aM, .inr (12, gs6))] H := hP
      have hD : va_D A [(qSt, .inl (cZ, 656, .inl fSt)), (aM, .inr (12, gs6))] := hD
      rcases hw5 with ⟨rfl, c9⟩ | ⟨rfl, c10⟩
      · skip
        have ziN : iN = 0 := z_inj (by simp only [Int32.lt_iff_toInt_lt, Int32.le_iff_toInt_le, ← Int32.toInt_inj, zi_m1, zi_0, zi_1, zi_6, zi_8, zi_M, zi_16, zi_20, zi_23, zi_24, zi_27, zi_29, zi_30, zi_40, zi_500, zi_700, zi_1000] at c1 c3 c9 ⊢<;> omega)
        subst ziN
        refine lv_if_ne (tgt := 24) hx hb dX12_can_19 (by decide) (fun _ => ?_) (fun zc => absurd zc (by decide))
        refine lv_aload_n hx hb dX12_can_24 rfl (lv_at hl 0 rfl) ?_
        refine lv_iload_n hx hb dX12_can_25 rfl (lv_at hl 2 rfl) ?_
        have hPc : va_P (dC, dI) vwCl (ws_m_knows cB cI cJ cZ cQ aM qSt fSt gs6) H := hP.sub [1, 0] rfl
        have hDc := hD.sub (ws' := (ws_m_knows cB cI cJ cZ cQ aM qSt fSt gs6)) [1, 0] (by decide) rfl
        have hFc := va_free (wc := (ws_m_knows cB cI cJ cZ cQ aM qSt fSt gs6)) hD hS hA [1, 0] rfl
        refine va_callv (va_runV (As := [.int 0]) (rest := []) ⟨hx, hb, hml, hown, hts⟩ (m_knows l dC dI cB cI cJ cZ cQ aM qSt fSt gs6 H.size hgl7 ((hgf8 56 (by decide)).trans haM_56) ((hgf8 57 (by decide)).trans haM_57)) (cwV 1 hts g_m_can_m_knows_355 rfl rfl rfl (by decide +kernel) ⟨Nat.le_of_ble_eq_true rfl, Nat.le_of_ble_eq_true rfl⟩) ⟨zFB, va_recv hK hP (ci := 12) (q0 := 1) rfl rfl, fun U hU hW => zUp hU hW hPc hK hO hDc⟩ rfl rfl hl.1 rfl (lv_room (Nat.le_of_ble_eq_true rfl)) dX12_can_26 ⟨Nat.le_of_ble_eq_true rfl, Nat.le_of_ble_eq_true rfl⟩) hS (fun q _ h => hFc q h) hFc (fun u t H1 locs ht hvm hw12 hB hz1 hk1 hS => ?_)
        obtain ⟨gs13, hgl14, hgf15, hP1, hD1⟩ := hB
        rw [ht] at hP1
        obtain ⟨hP, hD⟩ := va_join (wr := []) (w1 := [(aM, .inr (12, gs13))]) hP hD [1, 0] [] rfl rfl (by decide) (by decide) hk1 hFc hP1 hD1
        generalize H1 = H at hP hS ⊢
        have hP : va_P (dC, dI) vwCl [(aM, .inr (12, gs13))] H := hP
        have hD : va_D A [(aM, .inr (12, gs13))] := hD
        refine lv_aload_n hx hb dX12_can_29 rfl (lv_at hl 0 rfl) ?_
        refine lv_iload_n hx hb dX12_can_30 rfl (lv_at hl 1 rfl) ?_
        refine lv_iload_n hx hb dX12_can_31 rfl (lv_at hl 2 rfl) ?_
        have hPc : va_P (dC, dI) vwCl (ws_m_keeps cB cI cJ cZ cQ aM gs13) H := hP.sub [0] rfl
        have hDc := hD.sub (ws' := (ws_m_keeps cB cI cJ cZ cQ aM gs13)) [0] (by decide) rfl
        have hFc := va_free (wc := (ws_m_keeps cB cI cJ cZ cQ aM gs13)) hD hS hA [0] rfl
        refine va_calli (va_runV (As := [.int 0, .int 0]) (rest := []) ⟨hx, hb, hml, hown, hts⟩ (m_keeps l dC dI cB cI cJ cZ cQ aM gs13 H.size hgl14 ((hgf15 49 (by decide)).trans ((hgf8 49 (by decide)).trans haM_49)) ((hgf15 59 (by decide)).trans ((hgf8 59 (by decide)).trans haM_59))) (cwV 2 hts g_m_can_m_keeps_375 rfl rfl rfl (by decide +kernel) ⟨Nat.le_of_ble_eq_true rfl, Nat.le_of_ble_eq_true rfl⟩) ⟨zFB, va_recv hK hP (ci := 12) (q0 := 0) rfl rfl, fun U hU hW => zUp hU hW hPc hK hO hDc⟩ rfl rfl hl.1 rfl (lv_room (Nat.le_of_ble_eq_true rfl)) dX12_can_32 ⟨Nat.le_of_ble_eq_true rfl, Nat.le_of_ble_eq_true rfl⟩) hS (fun q _ h => hFc q h) hFc (fun r16 u t H1 locs ht hvm hw17 hB hz1 hk1 hS => ?_)
        obtain ⟨gs18, hgl19, hgf20, hgk21, hgk22, hP1, hD1⟩ := hB
        rw [ht] at hP1
        obtain ⟨hP, hD⟩ := va_join (wr := []) (w1 := [(aM, .inr (12, gs18))]) hP hD [0] [] rfl rfl (by decide) (by decide) hk1 hFc hP1 hD1
        generalize H1 = H at hP hS ⊢
        have hP : va_P (dC, dI) vwCl [(aM, .inr (12, gs18))] H := hP
        have hD : va_D A [(aM, .inr (12, gs18))] := hD
        obtain rfl : r16 = 1 := hw17
        refine lv_if_eq (tgt := 46) hx hb dX12_can_35 (by decide) (fun zc => absurd zc (by decide)) (fun _ => ?_)
        refine lv_aload_n hx hb dX12_can_38 rfl (lv_at hl 0 rfl) ?_
        refine lv_iload_n hx hb dX12_can_39 rfl (lv_at hl 1 rfl) ?_
        have hPc : va_P (dC, dI) vwCl (ws_m_worthOf cB cI cJ cZ cQ aM gs18) H := hP.sub [0] rfl
        have hDc := hD.sub (ws' := (ws_m_worthOf cB cI cJ cZ cQ aM gs18)) [0] (by decide) rfl
        have hFc := va_free (wc := (ws_m_worthOf cB cI cJ cZ cQ aM gs18)) hD hS hA [0] rfl
        refine va_calli (va_runV (As := [.int 0]) (rest := []) ⟨hx, hb, hml, hown, hts⟩ (m_worthOf l dC dI cB cI cJ cZ cQ aM gs18 H.size hgl19 ((hgf20 59 (by decide)).trans ((hgf15 59 (by decide)).trans ((hgf8 59 (by decide)).trans haM_59)))) (cwV 1 hts g_m_can_m_worthOf_378 rfl rfl rfl (by decide +kernel) ⟨Nat.le_of_ble_eq_true rfl, Nat.le_of_ble_eq_true rfl⟩) ⟨zFB, va_recv hK hP (ci := 12) (q0 := 0) rfl rfl, fun U hU hW => zUp hU hW hPc hK hO hDc⟩ rfl rfl hl.1 rfl (lv_room (Nat.le_of_ble_eq_true rfl)) dX12_can_40 ⟨Nat.le_of_ble_eq_true rfl, Nat.le_of_ble_eq_true rfl⟩) hS (fun q _ h => hFc q h) hFc (fun r23 u t H1 locs ht hvm hw24 hB hz1 hk1 hS => ?_)
        obtain ⟨gs25, hgl26, hgf27, hP1, hD1⟩ := hB
        rw [ht] at hP1
        obtain ⟨hP, hD⟩ := va_join (wr := []) (w1 := [(aM, .inr (12, gs25))]) hP hD [0] [] rfl rfl (by decide) (by decide) hk1 hFc hP1 hD1
        generalize H1 = H at hP hS ⊢
        have hP : va_P (dC, dI) vwCl [(aM, .inr (12, gs25))] H := hP
        have hD : va_D A [(aM, .inr (12, gs25))] := hD
        obtain rfl : r23 = 0 := hw24
        refine lv_goto (tgt := 48) hx hb dX12_can_43 (by decide) ?_
        exact W.iret (v := 0) hx hb hr (fun t ht hW => ⟨⟨0, (), rfl, (by first | rfl | decide | (unfold sp_can; split <;> rename_i zh <;> first | rfl | (exfalso; simp only [Int32.lt_iff_toInt_lt, Int32.le_iff_toInt_le, ← Int32.toInt_inj, zi_m1, zi_0, zi_1, zi_6, zi_8, zi_M, zi_16, zi_20, zi_23, zi_24, zi_27, zi_29, zi_30, zi_40, zi_500, zi_700, zi_1000, true_and, and_true] at zh c1 c3 c9 <;> omega))), trivial⟩, hS.F ht⟩) hS.2.2 dX12_can_48
      · skip
        refine lv_if_ne (tgt := 24) hx hb dX12_can_19 (by decide) (fun zc => absurd zc (by decide)) (fun _ => ?_)
        refine lv_iconst (v := (-1)) hx hb dX12_can_22 (by decide) ?_
        exact W.iret (v := (-1)) hx hb hr (fun t ht hW => ⟨⟨(-1), (), rfl, (by first | rfl | decide | (unfold sp_can; split <;> rename_i zh <;> first | rfl | (exfalso; simp only [Int32.lt_iff_toInt_lt, Int32.le_iff_toInt_le, ← Int32.toInt_inj, zi_m1, zi_0, zi_1, zi_6, zi_8, zi_M, zi_16, zi_20, zi_23, zi_24, zi_27, zi_29, zi_30, zi_40, zi_500, zi_700, zi_1000, true_and, and_true] at zh c1 c3 c10 <;> omega))), trivial⟩, hS.F ht⟩) hS.2.2 dX12_can_23

def zs_m_make : List Cond := .code yX12_make cX12_make 2 (some .int) :: (([.fieldLink RX12 385 "LanternHouseModel" "made" "I", .methodLink RX12 344 yX12_isKnown, .instanceMethod yX12_isKnown, .selects RX12 yX12_isKnown yX12_isKnown, .initialized RX12, .methodLink RX12 397 yX12_makes, .instanceMethod yX12_makes, .selects RX12 yX12_makes yX12_makes, .methodLink RX12 378 yX12_worthOf, .instanceMethod yX12_worthOf, .selects RX12 yX12_worthOf yX12_worthOf] : List Cond) ++ (zs_m_isKnown ++ (zs_m_makes ++ (zs_m_worthOf ++ (wsX120 ++ [])))))
theorem gd_m_make : (zs_m_make).all goodWord = true := by decide +kernel
theorem in_m_make_12 : ∀ w ∈ wsX120, w ∈ zs_m_make := fun w h => List.mem_cons_of_mem _ (List.mem_append_right _ (List.mem_append_right _ (List.mem_append_right _ (List.mem_append_right _ (List.mem_append_left _ h)))))
theorem g_m_make_m_isKnown_344 : GoodIn zs_m_make (wsV RX12 344 RX12 yX12_isKnown zs_m_isKnown) := goodIn_app (goodIn_of _ (by decide +kernel)) (goodIn_sub (fun w h => List.mem_cons_of_mem _ (List.mem_append_right _ (List.mem_append_left _ h))) gd_m_isKnown)
theorem g_m_make_m_makes_397 : GoodIn zs_m_make (wsV RX12 397 RX12 yX12_makes zs_m_makes) := goodIn_app (goodIn_of _ (by decide +kernel)) (goodIn_sub (fun w h => List.mem_cons_of_mem _ (List.mem_append_right _ (List.mem_append_right _ (List.mem_append_left _ h)))) gd_m_makes)
theorem g_m_make_m_worthOf_378 : GoodIn zs_m_make (wsV RX12 378 RX12 yX12_worthOf zs_m_worthOf) := goodIn_app (goodIn_of _ (by decide +kernel)) (goodIn_sub (fun w h => List.mem_cons_of_mem _ (List.mem_append_right _ (List.mem_append_right _ (List.mem_append_right _ (List.mem_append_left _ h))))) gd_m_worthOf)
abbrev ws_m_make (cB cI cJ cZ cQ : ClassId) (aM qSt qgets qgetsAs qgetsFrom qgetsAt qmadeGets qmadeAs qmadeFrom qmadeAt : Nat) (iN : Int32) (fSt : Nat → Int32) (fgets : Nat → Int32) (fgetsAs : Nat → Int32) (fgetsFrom : Nat → Int32) (fgetsAt : Nat → Int32) (fmadeGets : Nat → Int32) (fmadeAs : Nat → Int32) (fmadeFrom : Nat → Int32) (fmadeAt : Nat → Int32) (fsaM : List Value) : va_W := [(aM, .inr (12, fsaM)), (qSt, .inl (cZ, 656, .inl fSt)), (qgets, .inl (cI, 64, .inl fgets)), (qgetsAs, .inl (cI, 64, .inl fgetsAs)), (qgetsFrom, .inl (cI, 64, .inl fgetsFrom)), (qgetsAt, .inl (cI, 64, .inl fgetsAt)), (qmadeGets, .inl (cI, 64, .inl fmadeGets)), (qmadeAs, .inl (cI, 64, .inl fmadeAs)), (qmadeFrom, .inl (cI, 64, .inl fmadeFrom)), (qmadeAt, .inl (cI, 64, .inl fmadeAt))]
set_option maxHeartbeats 4000000 in
set_option maxRecDepth 100000 in
theorem m_make (l : Launch) (dC : Nat → ClassId) (dI : Nat → Nat → Nat) (cB cI cJ cZ cQ : ClassId) (aM qSt qgets qgetsAs qgetsFrom qgetsAt qmadeGets qmadeAs qmadeFrom qmadeAt : Nat) (iN : Int32) (fSt : Nat → Int32) (fgets : Nat → Int32) (fgetsAs : Nat → Int32) (fgetsFrom : Nat → Int32) (fgetsAt : Nat → Int32) (fmadeGets : Nat → Int32) (fmadeAs : Nat → Int32) (fmadeFrom : Nat → Int32) (fmadeAt : Nat → Int32) (fsaM : List Value) (sz : Nat) (hlaM : fsaM.length = 87) (haM_49 : fsaM[49]? = some (.int 0)) (haM_52 : fsaM[52]? = some (.int 0)) (haM_56 : fsaM[56]? = some (.int (-1))) (haM_57 : fsaM[57]? = some (.ref qSt)) (haM_59 : fsaM[59]? = some (.int 0)) (haM_65 : fsaM[65]? = some (.ref qgets)) (haM_66 : fsaM[66]? = some (.ref qgetsAs)) (haM_67 : fsaM[67]? = some (.ref qgetsFrom)) (haM_68 : fsaM[68]? = some (.ref qgetsAt)) (haM_78 : fsaM[78]? = some (.ref qmadeGets)) (haM_79 : fsaM[79]? = some (.ref qmadeAs)) (haM_80 : fsaM[80]? = some (.ref qmadeFrom)) (haM_81 : fsaM[81]? = some (.ref qmadeAt)) : Met l yX12_make zs_m_make ({ frames := 2, cells := 0, slots := 0, locals := 51 } : Room) (zPc [.ref aM, .int iN] (dC, dI) (zTY cB cI cJ cZ cQ) (ws_m_make cB cI cJ cZ cQ aM qSt qgets qgetsAs qgetsFrom qgetsAt qmadeGets qmadeAs qmadeFrom qmadeAt iN fSt fgets fgetsAs fgetsFrom fgetsAt fmadeGets fmadeAs fmadeFrom fmadeAt fsaM) sz) (va_Qi (fun (zr : Int32) (_ : Unit) => zr = sp_back iN) (fun (_ : Unit) (_ : State) => True) (va_A (ws_m_make cB cI cJ cZ cQ aM qSt qgets qgetsAs qgetsFrom qgetsAt qmadeGets qmadeAs qmadeFrom qmadeAt iN fSt fgets fgetsAs fgetsFrom fgetsAt fmadeGets fmadeAs fmadeFrom fmadeAt fsaM) sz)) 0 0 (va_A (ws_m_make cB cI cJ cZ cQ aM qSt qgets qgetsAs qgetsFrom qgetsAt qmadeGets qmadeAs qmadeFrom qmadeAt iN fSt fgets fgetsAs fgetsFrom fgetsAt fmadeGets fmadeAs fmadeFrom fmadeAt fsaM) sz) := by
  refine Met.ofW (cc := cX12_make) (maxL := 2) (ret := (some .int)) (by decide) rfl ?_
  intro p e s m args below meth c s₁ B hml hv
  obtain ⟨rfl, hsz, hP0, hK, hO, hD0⟩ := hv
  have hx := B.exec
  have hb := B.bytes
  have hr := B.returns
  have hts := atoms_spec (ws := zs_m_make) B.pre
  have hown : s.vm.findClass RX12 = some m.cls := findClass_of_methodNamed B.named
  have hlocks := B.notSynchronized
  subst hsz
  have hD8 := hD0.self (sz := s.heap.size)
  generalize hAe : va_A (ws_m_make cB cI cJ cZ cQ aM qSt qgets qgetsAs qgetsFrom qgetsAt qmadeGets qmadeAs qmadeFrom qmadeAt iN fSt fgets fgetsAs fgetsFrom fgetsAt fmadeGets fmadeAs fmadeFrom fmadeAt fsaM) s.heap.size = A at hD8 ⊢
  have hA : ∀ q : Nat, s.heap.size ≤ q → A q := fun q h => by rw [← hAe]; exact Or.inr h
  have hS : va_S A s.heap s.heap [] := va_S.rf
  have hP : va_P (dC, dI) vwCl [(aM, .inr (12, fsaM)), (qSt, .inl (cZ, 656, .inl fSt)), (qgets, .inl (cI, 64, .inl fgets)), (qgetsAs, .inl (cI, 64, .inl fgetsAs)), (qgetsFrom, .inl (cI, 64, .inl fgetsFrom)), (qgetsAt, .inl (cI, 64, .inl fgetsAt)), (qmadeGets, .inl (cI, 64, .inl fmadeGets)), (qmadeAs, .inl (cI, 64, .inl fmadeAs)), (qmadeFrom, .inl (cI, 64, .inl fmadeFrom)), (qmadeAt, .inl (cI, 64, .inl fmadeAt))] s.heap := hP0
  have hD : va_D A [(aM, .inr (12, fsaM)), (qSt, .inl (cZ, 656, .inl fSt)), (qgets, .inl (cI, 64, .inl fgets)), (qgetsAs, .inl (cI, 64, .inl fgetsAs)), (qgetsFrom, .inl (cI, 64, .inl fgetsFrom)), (qgetsAt, .inl (cI, 64, .inl fgetsAt)), (qmadeGets, .inl (cI, 64, .inl fmadeGets)), (qmadeAs, .inl (cI, 64, .inl fmadeAs)), (qmadeFrom, .inl (cI, 64, .inl fmadeFrom)), (qmadeAt, .inl (cI, 64, .inl fmadeAt))] := hD8
  have hl := lv_entry ([.ref aM, .int iN]) (n := 2) (Nat.le_of_ble_eq_true rfl)
  rw [lg_entry_eq]
  generalize (lg_sl ([.ref aM, .int iN]) ++ List.replicate (2 - (lg_sl ([.ref aM, .int iN])).length) Slot.unset).toArray = ls at hl ⊢
  have hl : lv_has ls 2 [(0, .ref aM), (1, .int iN)] := hl
  clear hP0 hD8 hD0
  refine zH0 (fun H hP hS => ?_) hP hS
  refine lv_aload_n hx hb dX12_make_0 rfl (lv_at hl 0 rfl) ?_
  refine lv_iload_n hx hb dX12_make_1 rfl (lv_at hl 1 rfl) ?_
  have hPc : va_P (dC, dI) vwCl (ws_m_isKnown cB cI cJ cZ cQ aM iN fsaM) H := hP.sub [0] rfl
  have hDc := hD.sub (ws' := (ws_m_isKnown cB cI cJ cZ cQ aM iN fsaM)) [0] (by decide) rfl
  have hFc := va_free (wc := (ws_m_isKnown cB cI cJ cZ cQ aM iN fsaM)) hD hS hA [0] rfl
  refine va_calli (va_runV (As := [.int iN]) (rest := []) ⟨hx, hb, hml, hown, hts⟩ (m_isKnown l dC dI cB cI cJ cZ cQ aM iN fsaM H.size hlaM haM_52) (cwV 1 hts g_m_make_m_isKnown_344 rfl rfl rfl (by decide +kernel) ⟨Nat.le_of_ble_eq_true rfl, Nat.le_of_ble_eq_true rfl⟩) ⟨zFB, va_recv hK hP (ci := 12) (q0 := 0) rfl rfl, fun U hU hW => zUp hU hW hPc hK hO hDc⟩ rfl rfl hl.1 rfl (lv_room (Nat.le_of_ble_eq_true rfl)) dX12_make_2 ⟨Nat.le_of_ble_eq_true rfl, Nat.le_of_ble_eq_true rfl⟩) hS (fun q _ h => hFc q h) hFc (fun r1 u t H1 locs ht hvm hw2 hB hz1 hk1 hS => ?_)
  obtain ⟨gs3, hgl4, hgf5, hP1, hD1⟩ := hB
  rw [ht] at hP1
  obtain ⟨hP, hD⟩ := va_join (wr := [(qSt, .inl (cZ, 656, .inl fSt)), (qgets, .inl (cI, 64, .inl fgets)), (qgetsAs, .inl (cI, 64, .inl fgetsAs)), (qgetsFrom, .inl (cI, 64, .inl fgetsFrom)), (qgetsAt, .inl (cI, 64, .inl fgetsAt)), (qmadeGets, .inl (cI, 64, .inl fmadeGets)), (qmadeAs, .inl (cI, 64, .inl fmadeAs)), (qmadeFrom, .inl (cI, 64, .inl fmadeFrom)), (qmadeAt, .inl (cI, 64, .inl fmadeAt))]) (w1 := [(aM, .inr (12, gs3))]) hP hD [0] [1, 2, 3, 4, 5, 6, 7, 8, 9] rfl rfl (by decide) (by decide) hk1 hFc hP1 hD1
  generalize H1 = H at hP hS ⊢
  have hP : va_P (dC, dI) vwCl [(qSt, .inl (cZ, 656, .inl fSt)), (qgets, .inl (cI, 64, .inl fgets)), (qgetsAs, .inl (cI, 64, .inl fgetsAs)), (qgetsFrom, .inl (cI, 64, .inl fgetsFrom)), (qgetsAt, .inl (cI, 64, .inl fgetsAt)), (qmadeGets, .inl (cI, 64, .inl fmadeGets)), (qmadeAs, .inl (cI, 64, .inl fmadeAs)), (qmadeFrom, .inl (cI, 64, .inl fmadeFrom)), (qmadeAt, .inl (cI, 64, .inl fmadeAt)), (aM, .inr (12, gs3))] H := hP
  have hD : va_D A [(qSt, .inl (cZ, 656, .inl fSt)), (qgets, .inl (cI, 64, .inl fgets)), (qgetsAs, .inl (cI, 64, .inl fgetsAs)), (qgetsFrom, .inl (cI, 64, .inl fgetsFrom)), (qgetsAt, .inl (cI, 64, .inl fgetsAt)), (qmadeGets, .inl (cI, 64, .inl fmadeGets)), (qmadeAs, .inl (cI, 64, .inl fmadeAs)), (qmadeFrom, .inl (cI, 64, .inl fmadeFrom)), (qmadeAt, .inl (cI, 64, .inl fmadeAt)), (aM, .inr (12, gs3))] := hD
  rcases hw2 with ⟨rfl, c6⟩ | ⟨rfl, c7⟩
  · skip
    have ziN : iN = 0 := z_inj (by simp only [Int32.lt_iff_toInt_lt, Int32.le_iff_toInt_le, ← Int32.toInt_inj, zi_m1, zi_0, zi_1, zi_6, zi_8, zi_M, zi_16, zi_20, zi_23, zi_24, zi_27, zi_29, zi_30, zi_40, zi_500, zi_700, zi_1000] at c6 ⊢<;> omega)
    subst ziN
    refine lv_if_ne (tgt := 10) hx hb dX12_make_5 (by decide) (fun _ => ?_) (fun zc => absurd zc (by decide))
    refine lv_aload_n hx hb dX12_make_10 rfl (lv_at hl 0 rfl) ?_
    refine lv_iload_n hx hb dX12_make_11 rfl (lv_at hl 1 rfl) ?_
    refine lv_iconst (v := 0) hx hb dX12_make_12 (by decide) ?_
    have hPc : va_P (dC, dI) vwCl (ws_m_makes cB cI cJ cZ cQ aM qSt qgets qgetsAs qgetsFrom qgetsAt qmadeGets qmadeAs qmadeFrom qmadeAt fSt fgets fgetsAs fgetsFrom fgetsAt fmadeGets fmadeAs fmadeFrom fmadeAt gs3) H := hP.sub [9, 0, 1, 2, 3, 4, 5, 6, 7, 8] rfl
    have hDc := hD.sub (ws' := (ws_m_makes cB cI cJ cZ cQ aM qSt qgets qgetsAs qgetsFrom qgetsAt qmadeGets qmadeAs qmadeFrom qmadeAt fSt fgets fgetsAs fgetsFrom fgetsAt fmadeGets fmadeAs fmadeFrom fmadeAt gs3)) [9, 0, 1, 2, 3, 4, 5, 6, 7, 8] (by decide) rfl
    have hFc := va_free (wc := (ws_m_makes cB cI cJ cZ cQ aM qSt qgets qgetsAs qgetsFrom qgetsAt qmadeGets qmadeAs qmadeFrom qmadeAt fSt fgets fgetsAs fgetsFrom fgetsAt fmadeGets fmadeAs fmadeFrom fmadeAt gs3)) hD hS hA [9, 0, 1, 2, 3, 4, 5, 6, 7, 8] rfl
    refine va_callv (va_runV (As := [.int 0, .int 0]) (rest := []) ⟨hx, hb, hml, hown, hts⟩ (m_makes l dC dI cB cI cJ cZ cQ aM qSt qgets qgetsAs qgetsFrom qgetsAt qmadeGets qmadeAs qmadeFrom qmadeAt fSt fgets fgetsAs fgetsFrom fgetsAt fmadeGets fmadeAs fmadeFrom fmadeAt gs3 H.size hgl4 ((hgf5 49 (by decide)).trans haM_49) ((hgf5 56 (by decide)).trans haM_56) ((hgf5 57 (by decide)).trans haM_57) ((hgf5 59 (by decide)).trans haM_59) ((hgf5 65 (by decide)).trans haM_65) ((hgf5 66 (by decide)).trans haM_66) ((hgf5 67 (by decide)).trans haM_67) ((hgf5 68 (by decide)).trans haM_68) ((hgf5 78 (by decide)).trans haM_78) ((hgf5 79 (by decide)).trans haM_79) ((hgf5 80 (by decide)).trans haM_80) ((hgf5 81 (by decide)).trans haM_81)) (cwV 2 hts g_m_make_m_makes_397 rfl rfl rfl (by decide +kernel) ⟨Nat.le_of_ble_eq_true rfl, Nat.le_of_ble_eq_true rfl⟩) ⟨zFB, va_recv hK hP (ci := 12) (q0 := 9) rfl rfl, fun U hU hW => zUp hU hW hPc hK hO hDc⟩ rfl rfl hl.1 rfl (lv_room (Nat.le_of_ble_eq_true rfl)) dX12_make_13 ⟨Nat.le_of_ble_eq_true rfl, Nat.le_of_ble_eq_true rfl⟩) hS (fun q _ h => hFc q h) hFc (fun u t H1 locs ht hvm hw9 hB hz1 hk1 hS => ?_)
    obtain ⟨gs10, hgl11, hgf12, hgk13, hP1, hD1⟩ := hB
    rw [ht] at hP1
    obtain ⟨hP, hD⟩ := va_join (wr := []) (w1 := [(aM, .inr (12, gs10))]) hP hD [9, 0, 1, 2, 3, 4, 5, 6, 7, 8] [] rfl rfl (by decide) (by decide) hk1 hFc hP1 hD1
    generalize H1 = H at hP hS ⊢
    have hP : va_P (dC, dI) vwCl [(aM, .inr (12, gs10))] H := hP
    have hD : va_D A [(aM, .inr (12, gs10))] := hD
    refine lv_aload_n hx hb dX12_make_16 rfl (lv_at hl 0 rfl) ?_
    refine lv_aload_n hx hb dX12_make_17 rfl (lv_at hl 0 rfl) ?_
    refine va_get (D := (dC, dI)) (ci := 12) (v := .int 0) (C := RX12) (T := TX12) (N := 87) hx hb hts in_m_make_12 hown hK hP 0 rfl rfl 75 (by decide) (hts (.fieldLink RX12 385 "LanternHouseModel" "made" "I") (by decide +kernel)) (fun _ h9 => h9) hgk13 dX12_make_18 ?_
    have hPc : va_P (dC, dI) vwCl (ws_m_worthOf cB cI cJ cZ cQ aM gs10) H := hP.sub [0] rfl
    have hDc := hD.sub (ws' := (ws_m_worthOf cB cI cJ cZ cQ aM gs10)) [0] (by decide) rfl
    have hFc := va_free (wc := (ws_m_worthOf cB cI cJ cZ cQ aM gs10)) hD hS hA [0] rfl
    refine va_calli (va_runV (As := [.int 0]) (rest := []) ⟨hx, hb, hml, hown, hts⟩ (m_worthOf l dC dI cB cI cJ cZ cQ aM gs10 H.size hgl11 ((hgf12 59 (by decide)).trans ((hgf5 59 (by decide)).trans haM_59))) (cwV 1 hts g_m_make_m_worthOf_378 rfl rfl rfl (by decide +kernel) ⟨Nat.le_of_ble_eq_true rfl, Nat.le_of_ble_eq_true rfl⟩) ⟨zFB, va_recv hK hP (ci := 12) (q0 := 0) rfl rfl, fun U hU hW => zUp hU hW hPc hK hO hDc⟩ rfl rfl hl.1 rfl (lv_room (Nat.le_of_ble_eq_true rfl)) dX12_make_21 ⟨Nat.le_of_ble_eq_true rfl, Nat.le_of_ble_eq_true rfl⟩) hS (fun q _ h => hFc q h) hFc (fun r14 u t H1 locs ht hvm hw15 hB hz1 hk1 hS => ?_)
    obtain ⟨gs16, hgl17, hgf18, hP1, hD1⟩ := hB
    rw [ht] at hP1
    obtain ⟨hP, hD⟩ := va_join (wr := []) (w1 := [(aM, .inr (12, gs16))]) hP hD [0] [] rfl rfl (by decide) (by decide) hk1 hFc hP1 hD1
    generalize H1 = H at hP hS ⊢
    have hP : va_P (dC, dI) vwCl [(aM, .inr (12, gs16))] H := hP
    have hD : va_D A [(aM, .inr (12, gs16))] := hD
    obtain rfl : r14 = 0 := hw15
    exact W.iret (v := 0) hx hb hr (fun t ht hW => ⟨⟨0, (), rfl, (by first | rfl | decide | (unfold sp_back; split <;> rename_i zh <;> first | rfl | (exfalso; simp only [Int32.lt_iff_toInt_lt, Int32.le_iff_toInt_le, ← Int32.toInt_inj, zi_m1, zi_0, zi_1, zi_6, zi_8, zi_M, zi_16, zi_20, zi_23, zi_24, zi_27, zi_29, zi_30, zi_40, zi_500, zi_700, zi_1000, true_and, and_true] at zh c6 <;> omega))), trivial⟩, hS.F ht⟩) hS.2.2 dX12_make_24
  · skip
    refine lv_if_ne (tgt := 10) hx hb dX12_make_5 (by decide) (fun zc => absurd zc (by decide)) (fun _ => ?_)
    refine lv_iconst (v := (-1)) hx hb dX12_make_8 (by decide) ?_
    exact W.iret (v := (-1)) hx hb hr (fun t ht hW => ⟨⟨(-1), (), rfl, (by first | rfl | decide | (unfold sp_back; split <;> rename_i zh <;> first | rfl | (exfalso; simp only [Int32.lt_iff_toInt_lt, Int32.le_iff_toInt_le, ← Int32.toInt_inj, zi_m1, zi_0, zi_1, zi_6, zi_8, zi_M, zi_16, zi_20, zi_23, zi_24, zi_27, zi_29, zi_30, zi_40, zi_500, zi_700, zi_1000, true_and, and_true] at zh c7 <;> omega))), trivial⟩, hS.F ht⟩) hS.2.2 dX12_make_9

def zs_m_mend : List Cond := .code yX12_mend cX12_mend 3 (some .int) :: (([.fieldLink RX12 287 "LanternHouseModel" "isMade" "Z"] : List Cond) ++ (wsX120 ++ []))
theorem gd_m_mend : (zs_m_mend).all goodWord = true := by decide +kernel
theorem in_m_mend_12 : ∀ w ∈ wsX120, w ∈ zs_m_mend := fun w h => List.mem_cons_of_mem _ (List.mem_append_right _ (List.mem_append_left _ h))
abbrev ws_m_mend (cB cI cJ cZ cQ : ClassId) (aM : Nat) (iN : Int32) (fsaM : List Value) : va_W := [(aM, .inr (12, fsaM))]
set_option maxHeartbeats 4000000 in
set_option maxRecDepth 100000 in
theorem m_mend (l : Launch) (dC : Nat → ClassId) (dI : Nat → Nat → Nat) (cB cI cJ cZ cQ : ClassId) (aM : Nat) (iN : Int32) (fsaM : List Value) (sz : Nat) (hlaM : fsaM.length = 87) (haM_74 : fsaM[74]? = some (.int 0)) : Met l yX12_mend zs_m_mend ({ frames := 0, cells := 0, slots := 0, locals := 0 } : Room) (zPc [.ref aM, .int iN] (dC, dI) (zTY cB cI cJ cZ cQ) (ws_m_mend cB cI cJ cZ cQ aM iN fsaM) sz) (va_Qi (fun (zr : Int32) (_ : Unit) => zr = (-1)) (fun (_ : Unit) (_ : State) => True) (va_A (ws_m_mend cB cI cJ cZ cQ aM iN fsaM) sz)) 0 0 (va_A (ws_m_mend cB cI cJ cZ cQ aM iN fsaM) sz) := by
  refine Met.ofW (cc := cX12_mend) (maxL := 3) (ret := (some .int)) (by decide) rfl ?_
  intro p e s m args below meth c s₁ B hml hv
  obtain ⟨rfl, hsz, hP0, hK, hO, hD0⟩ := hv
  have hx := B.exec
  have hb := B.bytes
  have hr := B.returns
  have hts := atoms_spec (ws := zs_m_mend) B.pre
  have hown : s.vm.findClass RX12 = some m.cls := findClass_of_methodNamed B.named
  have hlocks := B.notSynchronized
  subst hsz
  have hD8 := hD0.self (sz := s.heap.size)
  generalize hAe : va_A (ws_m_mend cB cI cJ cZ cQ aM iN fsaM) s.heap.size = A at hD8 ⊢
  have hA : ∀ q : Nat, s.heap.size ≤ q → A q := fun q h => by rw [← hAe]; exact Or.inr h
  have hS : va_S A s.heap s.heap [] := va_S.rf
  have hP : va_P (dC, dI) vwCl [(aM, .inr (12, fsaM))] s.heap := hP0
  have hD : va_D A [(aM, .inr (12, fsaM))] := hD8
  have hl := lv_entry ([.ref aM, .int iN]) (n := 3) (Nat.le_of_ble_eq_true rfl)
  rw [lg_entry_eq]
  generalize (lg_sl ([.ref aM, .int iN]) ++ List.replicate (3 - (lg_sl ([.ref aM, .int iN])).length) Slot.unset).toArray = ls at hl ⊢
  have hl : lv_has ls 3 [(0, .ref aM), (1, .int iN)] := hl
  clear hP0 hD8 hD0
  refine zH0 (fun H hP hS => ?_) hP hS
  refine lv_aload_n hx hb dX12_mend_0 rfl (lv_at hl 0 rfl) ?_
  refine va_get (D := (dC, dI)) (ci := 12) (v := .int 0) (C := RX12) (T := TX12) (N := 87) hx hb hts in_m_mend_12 hown hK hP 0 rfl rfl 74 (by decide) (hts (.fieldLink RX12 287 "LanternHouseModel" "isMade" "Z") (by decide +kernel)) (fun _ h9 => h9) haM_74 dX12_mend_1 ?_
  refine lv_if_eq (tgt := 15) hx hb dX12_mend_4 (by decide) (fun _ => ?_) (fun zc => absurd zc (by decide))
  refine lv_iconst (v := (-1)) hx hb dX12_mend_15 (by decide) ?_
  exact W.iret (v := (-1)) hx hb hr (fun t ht hW => ⟨⟨(-1), (), rfl, rfl, trivial⟩, hS.F ht⟩) hS.2.2 dX12_mend_16

def zs_m_told : List Cond := .code yX12_told cX12_told 3 (some .int) :: (([.fieldLink RX12 284 "LanternHouseModel" "shows" "I"] : List Cond) ++ (wsX120 ++ []))
theorem gd_m_told : (zs_m_told).all goodWord = true := by decide +kernel
theorem in_m_told_12 : ∀ w ∈ wsX120, w ∈ zs_m_told := fun w h => List.mem_cons_of_mem _ (List.mem_append_right _ (List.mem_append_left _ h))
abbrev ws_m_told (cB cI cJ cZ cQ : ClassId) (aM : Nat) (iX : Int32) (iWh : Int32) (fsaM : List Value) : va_W := [(aM, .inr (12, fsaM))]
set_option maxHeartbeats 4000000 in
set_option maxRecDepth 100000 in
theorem m_told (l : Launch) (dC : Nat → ClassId) (dI : Nat → Nat → Nat) (cB cI cJ cZ cQ : ClassId) (aM : Nat) (iX : Int32) (iWh : Int32) (fsaM : List Value) (sz : Nat) (hlaM : fsaM.length = 87) (haM_59 : fsaM[59]? = some (.int 0)) : Met l yX12_told zs_m_told ({ frames := 0, cells := 0, slots := 0, locals := 0 } : Room) (zPc [.ref aM, .int iX, .int iWh] (dC, dI) (zTY cB cI cJ cZ cQ) (ws_m_told cB cI cJ cZ cQ aM iX iWh fsaM) sz) (va_Qi (fun (zr : Int32) (_ : Unit) => zr = (-1)) (fun (_ : Unit) (_ : State) => True) (va_A (ws_m_told cB cI cJ cZ cQ aM iX iWh fsaM) sz)) 0 0 (va_A (ws_m_told cB cI cJ cZ cQ aM iX iWh fsaM) sz) := by
  refine Met.ofW (cc := cX12_told) (maxL := 3) (ret := (some .int)) (by decide) rfl ?_
  intro p e s m args below meth c s₁ B hml hv
  obtain ⟨rfl, hsz, hP0, hK, hO, hD0⟩ := hv
  have hx := B.exec
  have hb := B.bytes
  have hr := B.returns
  have hts := atoms_spec (ws := zs_m_told) B.pre
  have hown : s.vm.findClass RX12 = some m.cls := findClass_of_methodNamed B.named
  have hlocks := B.notSynchronized
  subst hsz
  have hD8 := hD0.self (sz := s.heap.size)
  generalize hAe : va_A (ws_m_told cB cI cJ cZ cQ aM iX iWh fsaM) s.heap.size = A at hD8 ⊢
  have hA : ∀ q : Nat, s.heap.size ≤ q → A q := fun q h => by rw [← hAe]; exact Or.inr h
  have hS : va_S A s.heap s.heap [] := va_S.rf
  have hP : va_P (dC, dI) vwCl [(aM, .inr (12, fsaM))] s.heap := hP0
  have hD : va_D A [(aM, .inr (12, fsaM))] := hD8
  have hl := lv_entry ([.ref aM, .int iX, .int iWh]) (n := 3) (Nat.le_of_ble_eq_true rfl)
  rw [lg_entry_eq]
  generalize (lg_sl ([.ref aM, .int iX, .int iWh]) ++ List.replicate (3 - (lg_sl ([.ref aM, .int iX, .int iWh])).length) Slot.unset).toArray = ls at hl ⊢
  have hl : lv_has ls 3 [(0, .ref aM), (1, .int iX), (2, .int iWh)] := hl
  clear hP0 hD8 hD0
  refine zH0 (fun H hP hS => ?_) hP hS
  refine lv_iload_n hx hb dX12_told_0 rfl (lv_at hl 1 rfl) ?_
  refine lv_if_lt (tgt := 12) hx hb dX12_told_1 (by decide) (fun c1 => ?_) (fun c1 => ?_)
  · skip
    refine lv_iconst (v := (-1)) hx hb dX12_told_12 (by decide) ?_
    exact W.iret (v := (-1)) hx hb hr (fun t ht hW => ⟨⟨(-1), (), rfl, rfl, trivial⟩, hS.F ht⟩) hS.2.2 dX12_told_13
  · skip
    refine lv_iload_n hx hb dX12_told_4 rfl (lv_at hl 1 rfl) ?_
    refine lv_aload_n hx hb dX12_told_5 rfl (lv_at hl 0 rfl) ?_
    refine va_get (D := (dC, dI)) (ci := 12) (v := .int 0) (C := RX12) (T := TX12) (N := 87) hx hb hts in_m_told_12 hown hK hP 0 rfl rfl 59 (by decide) (hts (.fieldLink RX12 284 "LanternHouseModel" "shows" "I") (by decide +kernel)) (fun _ h9 => h9) haM_59 dX12_told_6 ?_
    refine lv_icmp_lt (tgt := 14) hx hb dX12_told_9 (by decide) (fun c2 => ?_) (fun c2 => ?_)
    · skip
      exfalso
      simp only [Int32.lt_iff_toInt_lt, Int32.le_iff_toInt_le, ← Int32.toInt_inj, zi_m1, zi_0, zi_1, zi_6, zi_8, zi_M, zi_16, zi_20, zi_23, zi_24, zi_27, zi_29, zi_30, zi_40, zi_500, zi_700, zi_1000] at c1 c2 <;> omega
    · skip
      refine lv_iconst (v := (-1)) hx hb dX12_told_12 (by decide) ?_
      exact W.iret (v := (-1)) hx hb hr (fun t ht hW => ⟨⟨(-1), (), rfl, rfl, trivial⟩, hS.F ht⟩) hS.2.2 dX12_told_13

def zs_m_cue : List Cond := .code yX12_cue cX12_cue 6 (some .int) :: (([.methodLink RX12 401 yX12_isKept, .instanceMethod yX12_isKept, .selects RX12 yX12_isKept yX12_isKept, .initialized RX12] : List Cond) ++ (zs_m_isKept ++ []))
theorem gd_m_cue : (zs_m_cue).all goodWord = true := by decide +kernel
theorem g_m_cue_m_isKept_401 : GoodIn zs_m_cue (wsV RX12 401 RX12 yX12_isKept zs_m_isKept) := goodIn_app (goodIn_of _ (by decide +kernel)) (goodIn_sub (fun w h => List.mem_cons_of_mem _ (List.mem_append_right _ (List.mem_append_left _ h))) gd_m_isKept)
abbrev ws_m_cue (cB cI cJ cZ cQ : ClassId) (aM : Nat) (iX : Int32) (iI : Int32) (iWh : Int32) (fsaM : List Value) : va_W := [(aM, .inr (12, fsaM))]
set_option maxHeartbeats 4000000 in
set_option maxRecDepth 100000 in
theorem m_cue (l : Launch) (dC : Nat → ClassId) (dI : Nat → Nat → Nat) (cB cI cJ cZ cQ : ClassId) (aM : Nat) (iX : Int32) (iI : Int32) (iWh : Int32) (fsaM : List Value) (sz : Nat) (hlaM : fsaM.length = 87) (haM_59 : fsaM[59]? = some (.int 0)) : Met l yX12_cue zs_m_cue ({ frames := 1, cells := 0, slots := 0, locals := 21 } : Room) (zPc [.ref aM, .int iX, .int iI, .int iWh] (dC, dI) (zTY cB cI cJ cZ cQ) (ws_m_cue cB cI cJ cZ cQ aM iX iI iWh fsaM) sz) (va_Qi (fun (zr : Int32) (_ : Unit) => zr = (-1)) (fun (_ : Unit) (_ : State) => True) (va_A (ws_m_cue cB cI cJ cZ cQ aM iX iI iWh fsaM) sz)) 0 0 (va_A (ws_m_cue cB cI cJ cZ cQ aM iX iI iWh fsaM) sz) := by
  refine Met.ofW (cc := cX12_cue) (maxL := 6) (ret := (some .int)) (by decide) rfl ?_
  intro p e s m args below meth c s₁ B hml hv
  obtain ⟨rfl, hsz, hP0, hK, hO, hD0⟩ := hv
  have hx := B.exec
  have hb := B.bytes
  have hr := B.returns
  have hts := atoms_spec (ws := zs_m_cue) B.pre
  have hown : s.vm.findClass RX12 = some m.cls := findClass_of_methodNamed B.named
  have hlocks := B.notSynchronized
  subst hsz
  have hD8 := hD0.self (sz := s.heap.size)
  generalize hAe : va_A (ws_m_cue cB cI cJ cZ cQ aM iX iI iWh fsaM) s.heap.size = A at hD8 ⊢
  have hA : ∀ q : Nat, s.heap.size ≤ q → A q := fun q h => by rw [← hAe]; exact Or.inr h
  have hS : va_S A s.heap s.heap [] := va_S.rf
  have hP : va_P (dC, dI) vwCl [(aM, .inr (12, fsaM))] s.heap := hP0
  have hD : va_D A [(aM, .inr (12, fsaM))] := hD8
  have hl := lv_entry ([.ref aM, .int iX, .int iI, .int iWh]) (n := 6) (Nat.le_of_ble_eq_true rfl)
  rw [lg_entry_eq]
  generalize (lg_sl ([.ref aM, .int iX, .int iI, .int iWh]) ++ List.replicate (6 - (lg_sl ([.ref aM, .int iX, .int iI, .int iWh])).length) Slot.unset).toArray = ls at hl ⊢
  have hl : lv_has ls 6 [(0, .ref aM), (1, .int iX), (2, .int iI), (3, .int iWh)] := hl
  clear hP0 hD8 hD0
  refine zH0 (fun H hP hS => ?_) hP hS
  refine lv_aload_n hx hb dX12_cue_0 rfl (lv_at hl 0 rfl) ?_
  refine lv_iload_n hx hb dX12_cue_1 rfl (lv_at hl 1 rfl) ?_
  have hPc : va_P (dC, dI) vwCl (ws_m_isKept cB cI cJ cZ cQ aM iX fsaM) H := hP.sub [0] rfl
  have hDc := hD.sub (ws' := (ws_m_isKept cB cI cJ cZ cQ aM iX fsaM)) [0] (by decide) rfl
  have hFc := va_free (wc := (ws_m_isKept cB cI cJ cZ cQ aM iX fsaM)) hD hS hA [0] rfl
  refine va_calli (va_runV (As := [.int iX]) (rest := []) ⟨hx, hb, hml, hown, hts⟩ (m_isKept l dC dI cB cI cJ cZ cQ aM iX fsaM H.size hlaM haM_59) (cwV 1 hts g_m_cue_m_isKept_401 rfl rfl rfl (by decide +kernel) ⟨Nat.le_of_ble_eq_true rfl, Nat.le_of_ble_eq_true rfl⟩) ⟨zFB, va_recv hK hP (ci := 12) (q0 := 0) rfl rfl, fun U hU hW => zUp hU hW hPc hK hO hDc⟩ rfl rfl hl.1 rfl (lv_room (Nat.le_of_ble_eq_true rfl)) dX12_cue_2 ⟨Nat.le_of_ble_eq_true rfl, Nat.le_of_ble_eq_true rfl⟩) hS (fun q _ h => hFc q h) hFc (fun r1 u t H1 locs ht hvm hw2 hB hz1 hk1 hS => ?_)
  obtain ⟨gs3, hgl4, hgf5, hP1, hD1⟩ := hB
  rw [ht] at hP1
  obtain ⟨hP, hD⟩ := va_join (wr := []) (w1 := [(aM, .inr (12, gs3))]) hP hD [0] [] rfl rfl (by decide) (by decide) hk1 hFc hP1 hD1
  generalize H1 = H at hP hS ⊢
  have hP : va_P (dC, dI) vwCl [(aM, .inr (12, gs3))] H := hP
  have hD : va_D A [(aM, .inr (12, gs3))] := hD
  obtain rfl : r1 = 0 := hw2
  refine lv_if_eq (tgt := 35) hx hb dX12_cue_5 (by decide) (fun _ => ?_) (fun zc => absurd zc (by decide))
  refine lv_iconst (v := (-1)) hx hb dX12_cue_35 (by decide) ?_
  exact W.iret (v := (-1)) hx hb hr (fun t ht hW => ⟨⟨(-1), (), rfl, rfl, trivial⟩, hS.F ht⟩) hS.2.2 dX12_cue_36

def zs_m_showing : List Cond := .code yX12_showing cX12_showing 5 (some .int) :: (([.methodLink RX12 401 yX12_isKept, .instanceMethod yX12_isKept, .selects RX12 yX12_isKept yX12_isKept, .initialized RX12] : List Cond) ++ (zs_m_isKept ++ []))
theorem gd_m_showing : (zs_m_showing).all goodWord = true := by decide +kernel
theorem g_m_showing_m_isKept_401 : GoodIn zs_m_showing (wsV RX12 401 RX12 yX12_isKept zs_m_isKept) := goodIn_app (goodIn_of _ (by decide +kernel)) (goodIn_sub (fun w h => List.mem_cons_of_mem _ (List.mem_append_right _ (List.mem_append_left _ h))) gd_m_isKept)
abbrev ws_m_showing (cB cI cJ cZ cQ : ClassId) (aM : Nat) (iX : Int32) (iWh : Int32) (fsaM : List Value) : va_W := [(aM, .inr (12, fsaM))]
set_option maxHeartbeats 4000000 in
set_option maxRecDepth 100000 in
theorem m_showing (l : Launch) (dC : Nat → ClassId) (dI : Nat → Nat → Nat) (cB cI cJ cZ cQ : ClassId) (aM : Nat) (iX : Int32) (iWh : Int32) (fsaM : List Value) (sz : Nat) (hlaM : fsaM.length = 87) (haM_59 : fsaM[59]? = some (.int 0)) : Met l yX12_showing zs_m_showing ({ frames := 1, cells := 0, slots := 0, locals := 21 } : Room) (zPc [.ref aM, .int iX, .int iWh] (dC, dI) (zTY cB cI cJ cZ cQ) (ws_m_showing cB cI cJ cZ cQ aM iX iWh fsaM) sz) (va_Qi (fun (zr : Int32) (_ : Unit) => zr = (-1)) (fun (_ : Unit) (_ : State) => True) (va_A (ws_m_showing cB cI cJ cZ cQ aM iX iWh fsaM) sz)) 0 0 (va_A (ws_m_showing cB cI cJ cZ cQ aM iX iWh fsaM) sz) := by
  refine Met.ofW (cc := cX12_showing) (maxL := 5) (ret := (some .int)) (by decide) rfl ?_
  intro p e s m args below meth c s₁ B hml hv
  obtain ⟨rfl, hsz, hP0, hK, hO, hD0⟩ := hv
  have hx := B.exec
  have hb := B.bytes
  have hr := B.returns
  have hts := atoms_spec (ws := zs_m_showing) B.pre
  have hown : s.vm.findClass RX12 = some m.cls := findClass_of_methodNamed B.named
  have hlocks := B.notSynchronized
  subst hsz
  have hD8 := hD0.self (sz := s.heap.size)
  generalize hAe : va_A (ws_m_showing cB cI cJ cZ cQ aM iX iWh fsaM) s.heap.size = A at hD8 ⊢
  have hA : ∀ q : Nat, s.heap.size ≤ q → A q := fun q h => by rw [← hAe]; exact Or.inr h
  have hS : va_S A s.heap s.heap [] := va_S.rf
  have hP : va_P (dC, dI) vwCl [(aM, .inr (12, fsaM))] s.heap := hP0
  have hD : va_D A [(aM, .inr (12, fsaM))] := hD8
  have hl := lv_entry ([.ref aM, .int iX, .int iWh]) (n := 5) (Nat.le_of_ble_eq_true rfl)
  rw [lg_entry_eq]
  generalize (lg_sl ([.ref aM, .int iX, .int iWh]) ++ List.replicate (5 - (lg_sl ([.ref aM, .int iX, .int iWh])).length) Slot.unset).toArray = ls at hl ⊢
  have hl : lv_has ls 5 [(0, .ref aM), (1, .int iX), (2, .int iWh)] := hl
  clear hP0 hD8 hD0
  refine zH0 (fun H hP hS => ?_) hP hS
  refine lv_aload_n hx hb dX12_showing_0 rfl (lv_at hl 0 rfl) ?_
  refine lv_iload_n hx hb dX12_showing_1 rfl (lv_at hl 1 rfl) ?_
  have hPc : va_P (dC, dI) vwCl (ws_m_isKept cB cI cJ cZ cQ aM iX fsaM) H := hP.sub [0] rfl
  have hDc := hD.sub (ws' := (ws_m_isKept cB cI cJ cZ cQ aM iX fsaM)) [0] (by decide) rfl
  have hFc := va_free (wc := (ws_m_isKept cB cI cJ cZ cQ aM iX fsaM)) hD hS hA [0] rfl
  refine va_calli (va_runV (As := [.int iX]) (rest := []) ⟨hx, hb, hml, hown, hts⟩ (m_isKept l dC dI cB cI cJ cZ cQ aM iX fsaM H.size hlaM haM_59) (cwV 1 hts g_m_showing_m_isKept_401 rfl rfl rfl (by decide +kernel) ⟨Nat.le_of_ble_eq_true rfl, Nat.le_of_ble_eq_true rfl⟩) ⟨zFB, va_recv hK hP (ci := 12) (q0 := 0) rfl rfl, fun U hU hW => zUp hU hW hPc hK hO hDc⟩ rfl rfl hl.1 rfl (lv_room (Nat.le_of_ble_eq_true rfl)) dX12_showing_2 ⟨Nat.le_of_ble_eq_true rfl, Nat.le_of_ble_eq_true rfl⟩) hS (fun q _ h => hFc q h) hFc (fun r1 u t H1 locs ht hvm hw2 hB hz1 hk1 hS => ?_)
  obtain ⟨gs3, hgl4, hgf5, hP1, hD1⟩ := hB
  rw [ht] at hP1
  obtain ⟨hP, hD⟩ := va_join (wr := []) (w1 := [(aM, .inr (12, gs3))]) hP hD [0] [] rfl rfl (by decide) (by decide) hk1 hFc hP1 hD1
  generalize H1 = H at hP hS ⊢
  have hP : va_P (dC, dI) vwCl [(aM, .inr (12, gs3))] H := hP
  have hD : va_D A [(aM, .inr (12, gs3))] := hD
  obtain rfl : r1 = 0 := hw2
  refine lv_if_ne (tgt := 10) hx hb dX12_showing_5 (by decide) (fun zc => absurd zc (by decide)) (fun _ => ?_)
  refine lv_iconst (v := (-1)) hx hb dX12_showing_8 (by decide) ?_
  exact W.iret (v := (-1)) hx hb hr (fun t ht hW => ⟨⟨(-1), (), rfl, rfl, trivial⟩, hS.F ht⟩) hS.2.2 dX12_showing_9

def zs_m_blame : List Cond := .code yX12_blame cX12_blame 11 (some .int) :: (([.methodLink RX12 338 yX12_isPlate, .instanceMethod yX12_isPlate, .selects RX12 yX12_isPlate yX12_isPlate, .initialized RX12] : List Cond) ++ (zs_m_isPlate ++ []))
theorem gd_m_blame : (zs_m_blame).all goodWord = true := by decide +kernel
theorem g_m_blame_m_isPlate_338 : GoodIn zs_m_blame (wsV RX12 338 RX12 yX12_isPlate zs_m_isPlate) := goodIn_app (goodIn_of _ (by decide +kernel)) (goodIn_sub (fun w h => List.mem_cons_of_mem _ (List.mem_append_right _ (List.mem_append_left _ h))) gd_m_isPlate)
abbrev ws_m_blame (cB cI cJ cZ cQ : ClassId) (aM : Nat) (iP : Int32) (iN : Int32) (fsaM : List Value) : va_W := [(aM, .inr (12, fsaM))]
set_option maxHeartbeats 4000000 in
set_option maxRecDepth 100000 in
theorem m_blame (l : Launch) (dC : Nat → ClassId) (dI : Nat → Nat → Nat) (cB cI cJ cZ cQ : ClassId) (aM : Nat) (iP : Int32) (iN : Int32) (fsaM : List Value) (sz : Nat) (hlaM : fsaM.length = 87) (haM_49 : fsaM[49]? = some (.int 0)) : Met l yX12_blame zs_m_blame ({ frames := 1, cells := 0, slots := 0, locals := 21 } : Room) (zPc [.ref aM, .int iP, .int iN] (dC, dI) (zTY cB cI cJ cZ cQ) (ws_m_blame cB cI cJ cZ cQ aM iP iN fsaM) sz) (va_Qi (fun (zr : Int32) (_ : Unit) => zr = (-1)) (fun (_ : Unit) (_ : State) => True) (va_A (ws_m_blame cB cI cJ cZ cQ aM iP iN fsaM) sz)) 0 0 (va_A (ws_m_blame cB cI cJ cZ cQ aM iP iN fsaM) sz) := by
  refine Met.ofW (cc := cX12_blame) (maxL := 11) (ret := (some .int)) (by decide) rfl ?_
  intro p e s m args below meth c s₁ B hml hv
  obtain ⟨rfl, hsz, hP0, hK, hO, hD0⟩ := hv
  have hx := B.exec
  have hb := B.bytes
  have hr := B.returns
  have hts := atoms_spec (ws := zs_m_blame) B.pre
  have hown : s.vm.findClass RX12 = some m.cls := findClass_of_methodNamed B.named
  have hlocks := B.notSynchronized
  subst hsz
  have hD8 := hD0.self (sz := s.heap.size)
  generalize hAe : va_A (ws_m_blame cB cI cJ cZ cQ aM iP iN fsaM) s.heap.size = A at hD8 ⊢
  have hA : ∀ q : Nat, s.heap.size ≤ q → A q := fun q h => by rw [← hAe]; exact Or.inr h
  have hS : va_S A s.heap s.heap [] := va_S.rf
  have hP : va_P (dC, dI) vwCl [(aM, .inr (12, fsaM))] s.heap := hP0
  have hD : va_D A [(aM, .inr (12, fsaM))] := hD8
  have hl := lv_entry ([.ref aM, .int iP, .int iN]) (n := 11) (Nat.le_of_ble_eq_true rfl)
  rw [lg_entry_eq]
  generalize (lg_sl ([.ref aM, .int iP, .int iN]) ++ List.replicate (11 - (lg_sl ([.ref aM, .int iP, .int iN])).length) Slot.unset).toArray = ls at hl ⊢
  have hl : lv_has ls 11 [(0, .ref aM), (1, .int iP), (2, .int iN)] := hl
  clear hP0 hD8 hD0
  refine zH0 (fun H hP hS => ?_) hP hS
  refine lv_aload_n hx hb dX12_blame_0 rfl (lv_at hl 0 rfl) ?_
  refine lv_iload_n hx hb dX12_blame_1 rfl (lv_at hl 1 rfl) ?_
  have hPc : va_P (dC, dI) vwCl (ws_m_isPlate cB cI cJ cZ cQ aM iP fsaM) H := hP.sub [0] rfl
  have hDc := hD.sub (ws' := (ws_m_isPlate cB cI cJ cZ cQ aM iP fsaM)) [0] (by decide) rfl
  have hFc := va_free (wc := (ws_m_isPlate cB cI cJ cZ cQ aM iP fsaM)) hD hS hA [0] rfl
  refine va_calli (va_runV (As := [.int iP]) (rest := []) ⟨hx, hb, hml, hown, hts⟩ (m_isPlate l dC dI cB cI cJ cZ cQ aM iP fsaM H.size hlaM haM_49) (cwV 1 hts g_m_blame_m_isPlate_338 rfl rfl rfl (by decide +kernel) ⟨Nat.le_of_ble_eq_true rfl, Nat.le_of_ble_eq_true rfl⟩) ⟨zFB, va_recv hK hP (ci := 12) (q0 := 0) rfl rfl, fun U hU hW => zUp hU hW hPc hK hO hDc⟩ rfl rfl hl.1 rfl (lv_room (Nat.le_of_ble_eq_true rfl)) dX12_blame_2 ⟨Nat.le_of_ble_eq_true rfl, Nat.le_of_ble_eq_true rfl⟩) hS (fun q _ h => hFc q h) hFc (fun r1 u t H1 locs ht hvm hw2 hB hz1 hk1 hS => ?_)
  obtain ⟨gs3, hgl4, hgf5, hP1, hD1⟩ := hB
  rw [ht] at hP1
  obtain ⟨hP, hD⟩ := va_join (wr := []) (w1 := [(aM, .inr (12, gs3))]) hP hD [0] [] rfl rfl (by decide) (by decide) hk1 hFc hP1 hD1
  generalize H1 = H at hP hS ⊢
  have hP : va_P (dC, dI) vwCl [(aM, .inr (12, gs3))] H := hP
  have hD : va_D A [(aM, .inr (12, gs3))] := hD
  obtain rfl : r1 = 0 := hw2
  refine lv_if_eq (tgt := 23) hx hb dX12_blame_5 (by decide) (fun _ => ?_) (fun zc => absurd zc (by decide))
  refine lv_iconst (v := (-1)) hx hb dX12_blame_23 (by decide) ?_
  exact W.iret (v := (-1)) hx hb hr (fun t ht hW => ⟨⟨(-1), (), rfl, rfl, trivial⟩, hS.F ht⟩) hS.2.2 dX12_blame_24

def zs_m_where : List Cond := .code yX12_where cX12_where 5 (some .int) :: (([.methodLink RX12 338 yX12_isPlate, .instanceMethod yX12_isPlate, .selects RX12 yX12_isPlate yX12_isPlate, .initialized RX12] : List Cond) ++ (zs_m_isPlate ++ []))
theorem gd_m_where : (zs_m_where).all goodWord = true := by decide +kernel
theorem g_m_where_m_isPlate_338 : GoodIn zs_m_where (wsV RX12 338 RX12 yX12_isPlate zs_m_isPlate) := goodIn_app (goodIn_of _ (by decide +kernel)) (goodIn_sub (fun w h => List.mem_cons_of_mem _ (List.mem_append_right _ (List.mem_append_left _ h))) gd_m_isPlate)
abbrev ws_m_where (cB cI cJ cZ cQ : ClassId) (aM : Nat) (iP : Int32) (iHr : Int32) (fsaM : List Value) : va_W := [(aM, .inr (12, fsaM))]
set_option maxHeartbeats 4000000 in
set_option maxRecDepth 100000 in
theorem m_where (l : Launch) (dC : Nat → ClassId) (dI : Nat → Nat → Nat) (cB cI cJ cZ cQ : ClassId) (aM : Nat) (iP : Int32) (iHr : Int32) (fsaM : List Value) (sz : Nat) (hlaM : fsaM.length = 87) (haM_49 : fsaM[49]? = some (.int 0)) : Met l yX12_where zs_m_where ({ frames := 1, cells := 0, slots := 0, locals := 21 } : Room) (zPc [.ref aM, .int iP, .int iHr] (dC, dI) (zTY cB cI cJ cZ cQ) (ws_m_where cB cI cJ cZ cQ aM iP iHr fsaM) sz) (va_Qi (fun (zr : Int32) (_ : Unit) => zr = (-1)) (fun (_ : Unit) (_ : State) => True) (va_A (ws_m_where cB cI cJ cZ cQ aM iP iHr fsaM) sz)) 0 0 (va_A (ws_m_where cB cI cJ cZ cQ aM iP iHr fsaM) sz) := by
  refine Met.ofW (cc := cX12_where) (maxL := 5) (ret := (some .int)) (by decide) rfl ?_
  intro p e s m args below meth c s₁ B hml hv
  obtain ⟨rfl, hsz, hP0, hK, hO, hD0⟩ := hv
  have hx := B.exec
  have hb := B.bytes
  have hr := B.returns
  have hts := atoms_spec (ws := zs_m_where) B.pre
  have hown : s.vm.findClass RX12 = some m.cls := findClass_of_methodNamed B.named
  have hlocks := B.notSynchronized
  subst hsz
  have hD8 := hD0.self (sz := s.heap.size)
  generalize hAe : va_A (ws_m_where cB cI cJ cZ cQ aM iP iHr fsaM) s.heap.size = A at hD8 ⊢
  have hA : ∀ q : Nat, s.heap.size ≤ q → A q := fun q h => by rw [← hAe]; exact Or.inr h
  have hS : va_S A s.heap s.heap [] := va_S.rf
  have hP : va_P (dC, dI) vwCl [(aM, .inr (12, fsaM))] s.heap := hP0
  have hD : va_D A [(aM, .inr (12, fsaM))] := hD8
  have hl := lv_entry ([.ref aM, .int iP, .int iHr]) (n := 5) (Nat.le_of_ble_eq_true rfl)
  rw [lg_entry_eq]
  generalize (lg_sl ([.ref aM, .int iP, .int iHr]) ++ List.replicate (5 - (lg_sl ([.ref aM, .int iP, .int iHr])).length) Slot.unset).toArray = ls at hl ⊢
  have hl : lv_has ls 5 [(0, .ref aM), (1, .int iP), (2, .int iHr)] := hl
  clear hP0 hD8 hD0
  refine zH0 (fun H hP hS => ?_) hP hS
  refine lv_aload_n hx hb dX12_where_0 rfl (lv_at hl 0 rfl) ?_
  refine lv_iload_n hx hb dX12_where_1 rfl (lv_at hl 1 rfl) ?_
  have hPc : va_P (dC, dI) vwCl (ws_m_isPlate cB cI cJ cZ cQ aM iP fsaM) H := hP.sub [0] rfl
  have hDc := hD.sub (ws' := (ws_m_isPlate cB cI cJ cZ cQ aM iP fsaM)) [0] (by decide) rfl
  have hFc := va_free (wc := (ws_m_isPlate cB cI cJ cZ cQ aM iP fsaM)) hD hS hA [0] rfl
  refine va_calli (va_runV (As := [.int iP]) (rest := []) ⟨hx, hb, hml, hown, hts⟩ (m_isPlate l dC dI cB cI cJ cZ cQ aM iP fsaM H.size hlaM haM_49) (cwV 1 hts g_m_where_m_isPlate_338 rfl rfl rfl (by decide +kernel) ⟨Nat.le_of_ble_eq_true rfl, Nat.le_of_ble_eq_true rfl⟩) ⟨zFB, va_recv hK hP (ci := 12) (q0 := 0) rfl rfl, fun U hU hW => zUp hU hW hPc hK hO hDc⟩ rfl rfl hl.1 rfl (lv_room (Nat.le_of_ble_eq_true rfl)) dX12_where_2 ⟨Nat.le_of_ble_eq_true rfl, Nat.le_of_ble_eq_true rfl⟩) hS (fun q _ h => hFc q h) hFc (fun r1 u t H1 locs ht hvm hw2 hB hz1 hk1 hS => ?_)
  obtain ⟨gs3, hgl4, hgf5, hP1, hD1⟩ := hB
  rw [ht] at hP1
  obtain ⟨hP, hD⟩ := va_join (wr := []) (w1 := [(aM, .inr (12, gs3))]) hP hD [0] [] rfl rfl (by decide) (by decide) hk1 hFc hP1 hD1
  generalize H1 = H at hP hS ⊢
  have hP : va_P (dC, dI) vwCl [(aM, .inr (12, gs3))] H := hP
  have hD : va_D A [(aM, .inr (12, gs3))] := hD
  obtain rfl : r1 = 0 := hw2
  refine lv_if_eq (tgt := 22) hx hb dX12_where_5 (by decide) (fun _ => ?_) (fun zc => absurd zc (by decide))
  refine lv_iconst (v := (-1)) hx hb dX12_where_22 (by decide) ?_
  exact W.iret (v := (-1)) hx hb hr (fun t ht hW => ⟨⟨(-1), (), rfl, rfl, trivial⟩, hS.F ht⟩) hS.2.2 dX12_where_23

def zs_m_count : List Cond := .code yX12_count cX12_count 2 (some .int) :: (([.fieldLink RX12 201 "LanternHouseModel" "halls" "I", .fieldLink RX12 326 "LanternHouseModel" "trains" "I", .fieldLink RX12 320 "LanternHouseModel" "plates" "I", .fieldLink RX12 323 "LanternHouseModel" "facts" "I", .fieldLink RX12 40 "LanternHouseModel" "lectures" "[I", .fieldLink RX12 272 "LanternHouseModel" "live" "I", .fieldLink RX12 284 "LanternHouseModel" "shows" "I", .fieldLink RX12 287 "LanternHouseModel" "isMade" "Z", .fieldLink RX12 204 "LanternHouseModel" "taped" "I"] : List Cond) ++ (wsX120 ++ []))
theorem gd_m_count : (zs_m_count).all goodWord = true := by decide +kernel
theorem in_m_count_12 : ∀ w ∈ wsX120, w ∈ zs_m_count := fun w h => List.mem_cons_of_mem _ (List.mem_append_right _ (List.mem_append_left _ h))
abbrev ws_m_count (cB cI cJ cZ cQ : ClassId) (aM qLe : Nat) (iWh : Int32) (fLe : Nat → Int32) (fsaM : List Value) : va_W := [(aM, .inr (12, fsaM)), (qLe, .inl (cI, 2, .inl fLe))]
set_option maxHeartbeats 4000000 in
set_option maxRecDepth 100000 in
theorem m_count (l : Launch) (dC : Nat → ClassId) (dI : Nat → Nat → Nat) (cB cI cJ cZ cQ : ClassId) (aM qLe : Nat) (iWh : Int32) (fLe : Nat → Int32) (fsaM : List Value) (sz : Nat) (hLe0 : fLe (0 : Int32).toNatClampNeg = 0) (hlaM : fsaM.length = 87) (haM_2 : fsaM[2]? = some (.int 0)) (haM_18 : fsaM[18]? = some (.int 0)) (haM_20 : fsaM[20]? = some (.ref qLe)) (haM_43 : fsaM[43]? = some (.int 1)) (haM_44 : fsaM[44]? = some (.int 0)) (haM_49 : fsaM[49]? = some (.int 0)) (haM_52 : fsaM[52]? = some (.int 0)) (haM_59 : fsaM[59]? = some (.int 0)) (haM_74 : fsaM[74]? = some (.int 0)) : Met l yX12_count zs_m_count ({ frames := 0, cells := 0, slots := 0, locals := 0 } : Room) (zPc [.ref aM, .int iWh] (dC, dI) (zTY cB cI cJ cZ cQ) (ws_m_count cB cI cJ cZ cQ aM qLe iWh fLe fsaM) sz) (va_Qi (fun (zr : Int32) (_ : Unit) => zr = sp_count iWh) (fun (_ : Unit) (_ : State) => True) (va_A (ws_m_count cB cI cJ cZ cQ aM qLe iWh fLe fsaM) sz)) 0 0 (va_A (ws_m_count cB cI cJ cZ cQ aM qLe iWh fLe fsaM) sz) := by
  refine Met.ofW (cc := cX12_count) (maxL := 2) (ret := (some .int)) (by decide) rfl ?_
  intro p e s m args below meth c s₁ B hml hv
  obtain ⟨rfl, hsz, hP0, hK, hO, hD0⟩ := hv
  have hx := B.exec
  have hb := B.bytes
  have hr := B.returns
  have hts := atoms_spec (ws := zs_m_count) B.pre
  have hown : s.vm.findClass RX12 = some m.cls := findClass_of_methodNamed B.named
  have hlocks := B.notSynchronized
  subst hsz
  have hD8 := hD0.self (sz := s.heap.size)
  generalize hAe : va_A (ws_m_count cB cI cJ cZ cQ aM qLe iWh fLe fsaM) s.heap.size = A at hD8 ⊢
  have hA : ∀ q : Nat, s.heap.size ≤ q → A q := fun q h => by rw [← hAe]; exact Or.inr h
  have hS : va_S A s.heap s.heap [] := va_S.rf
  have hP : va_P (dC, dI) vwCl [(aM, .inr (12, fsaM)), (qLe, .inl (cI, 2, .inl fLe))] s.heap := hP0
  have hD : va_D A [(aM, .inr (12, fsaM)), (qLe, .inl (cI, 2, .inl fLe))] := hD8
  have hl := lv_entry ([.ref aM, .int iWh]) (n := 2) (Nat.le_of_ble_eq_true rfl)
  rw [lg_entry_eq]
  generalize (lg_sl ([.ref aM, .int iWh]) ++ List.replicate (2 - (lg_sl ([.ref aM, .int iWh])).length) Slot.unset).toArray = ls at hl ⊢
  have hl : lv_has ls 2 [(0, .ref aM), (1, .int iWh)] := hl
  clear hP0 hD8 hD0
  refine zH0 (fun H hP hS => ?_) hP hS
  refine lv_iload_n hx hb dX12_count_0 rfl (lv_at hl 1 rfl) ?_
  rcases z_tab9 iWh with rfl | rfl | rfl | rfl | rfl | rfl | rfl | rfl | rfl | rfl | hout
  · refine lv_tableIn (off := 55) (tgt := 56) hx hb dX12_count_1 (by decide) (by decide) (by decide) (by decide) ?_
    refine lv_aload_n hx hb dX12_count_56 rfl (lv_at hl 0 rfl) ?_
    refine va_get (D := (dC, dI)) (ci := 12) (v := .int 1) (C := RX12) (T := TX12) (N := 87) hx hb hts in_m_count_12 hown hK hP 0 rfl rfl 43 (by decide) (hts (.fieldLink RX12 201 "LanternHouseModel" "halls" "I") (by decide +kernel)) (fun _ h9 => h9) haM_43 dX12_count_57 ?_
    exact W.iret (v := 1) hx hb hr (fun t ht hW => ⟨⟨1, (), rfl, (by first | rfl | decide | (unfold sp_count; split <;> rename_i zh <;> first | rfl | (exfalso; simp only [Int32.lt_iff_toInt_lt, Int32.le_iff_toInt_le, ← Int32.toInt_inj, zi_m1, zi_0, zi_1, zi_6, zi_8, zi_M, zi_16, zi_20, zi_23, zi_24, zi_27, zi_29, zi_30, zi_40, zi_500, zi_700, zi_1000, true_and, and_true] at zh  <;> omega))), trivial⟩, hS.F ht⟩) hS.2.2 dX12_count_60
  · refine lv_tableIn (off := 60) (tgt := 61) hx hb dX12_count_1 (by decide) (by decide) (by decide) (by decide) ?_
    refine lv_aload_n hx hb dX12_count_61 rfl (lv_at hl 0 rfl) ?_
    refine va_get (D := (dC, dI)) (ci := 12) (v := .int 0) (C := RX12) (T := TX12) (N := 87) hx hb hts in_m_count_12 hown hK hP 0 rfl rfl 44 (by decide) (hts (.fieldLink RX12 326 "LanternHouseModel" "trains" "I") (by decide +kernel)) (fun _ h9 => h9) haM_44 dX12_count_62 ?_
    exact W.iret (v := 0) hx hb hr (fun t ht hW => ⟨⟨0, (), rfl, (by first | rfl | decide | (unfold sp_count; split <;> rename_i zh <;> first | rfl | (exfalso; simp only [Int32.lt_iff_toInt_lt, Int32.le_iff_toInt_le, ← Int32.toInt_inj, zi_m1, zi_0, zi_1, zi_6, zi_8, zi_M, zi_16, zi_20, zi_23, zi_24, zi_27, zi_29, zi_30, zi_40, zi_500, zi_700, zi_1000, true_and, and_true] at zh  <;> omega))), trivial⟩, hS.F ht⟩) hS.2.2 dX12_count_65
  · refine lv_tableIn (off := 65) (tgt := 66) hx hb dX12_count_1 (by decide) (by decide) (by decide) (by decide) ?_
    refine lv_aload_n hx hb dX12_count_66 rfl (lv_at hl 0 rfl) ?_
    refine va_get (D := (dC, dI)) (ci := 12) (v := .int 0) (C := RX12) (T := TX12) (N := 87) hx hb hts in_m_count_12 hown hK hP 0 rfl rfl 49 (by decide) (hts (.fieldLink RX12 320 "LanternHouseModel" "plates" "I") (by decide +kernel)) (fun _ h9 => h9) haM_49 dX12_count_67 ?_
    exact W.iret (v := 0) hx hb hr (fun t ht hW => ⟨⟨0, (), rfl, (by first | rfl | decide | (unfold sp_count; split <;> rename_i zh <;> first | rfl | (exfalso; simp only [Int32.lt_iff_toInt_lt, Int32.le_iff_toInt_le, ← Int32.toInt_inj, zi_m1, zi_0, zi_1, zi_6, zi_8, zi_M, zi_16, zi_20, zi_23, zi_24, zi_27, zi_29, zi_30, zi_40, zi_500, zi_700, zi_1000, true_and, and_true] at zh  <;> omega))), trivial⟩, hS.F ht⟩) hS.2.2 dX12_count_70
  · refine lv_tableIn (off := 70) (tgt := 71) hx hb dX12_count_1 (by decide) (by decide) (by decide) (by decide) ?_
    refine lv_aload_n hx hb dX12_count_71 rfl (lv_at hl 0 rfl) ?_
    refine va_get (D := (dC, dI)) (ci := 12) (v := .int 0) (C := RX12) (T := TX12) (N := 87) hx hb hts in_m_count_12 hown hK hP 0 rfl rfl 52 (by decide) (hts (.fieldLink RX12 323 "LanternHouseModel" "facts" "I") (by decide +kernel)) (fun _ h9 => h9) haM_52 dX12_count_72 ?_
    exact W.iret (v := 0) hx hb hr (fun t ht hW => ⟨⟨0, (), rfl, (by first | rfl | decide | (unfold sp_count; split <;> rename_i zh <;> first | rfl | (exfalso; simp only [Int32.lt_iff_toInt_lt, Int32.le_iff_toInt_le, ← Int32.toInt_inj, zi_m1, zi_0, zi_1, zi_6, zi_8, zi_M, zi_16, zi_20, zi_23, zi_24, zi_27, zi_29, zi_30, zi_40, zi_500, zi_700, zi_1000, true_and, and_true] at zh  <;> omega))), trivial⟩, hS.F ht⟩) hS.2.2 dX12_count_75
  · refine lv_tableIn (off := 75) (tgt := 76) hx hb dX12_count_1 (by decide) (by decide) (by decide) (by decide) ?_
    refine lv_aload_n hx hb dX12_count_76 rfl (lv_at hl 0 rfl) ?_
    refine va_get (D := (dC, dI)) (ci := 12) (v := .ref qLe) (C := RX12) (T := TX12) (N := 87) hx hb hts in_m_count_12 hown hK hP 0 rfl rfl 20 (by decide) (hts (.fieldLink RX12 40 "LanternHouseModel" "lectures" "[I") (by decide +kernel)) (fun _ h9 => h9) haM_20 dX12_count_77 ?_
    refine lv_aload_n hx hb dX12_count_80 rfl (lv_at hl 0 rfl) ?_
    refine va_get (D := (dC, dI)) (ci := 12) (v := .int 0) (C := RX12) (T := TX12) (N := 87) hx hb hts in_m_count_12 hown hK hP 0 rfl rfl 18 (by decide) (hts (.fieldLink RX12 272 "LanternHouseModel" "live" "I") (by decide +kernel)) (fun _ h9 => h9) haM_18 dX12_count_81 ?_
    refine z_iald hx hb hK hP 1 1 rfl rfl (show ¬ ((0 : Int32) < 0 ∨ 2 ≤ (0 : Int32).toNatClampNeg) from by decide) (v := 0) hLe0 dX12_count_84 ?_
    exact W.iret (v := 0) hx hb hr (fun t ht hW => ⟨⟨0, (), rfl, (by first | rfl | decide | (unfold sp_count; split <;> rename_i zh <;> first | rfl | (exfalso; simp only [Int32.lt_iff_toInt_lt, Int32.le_iff_toInt_le, ← Int32.toInt_inj, zi_m1, zi_0, zi_1, zi_6, zi_8, zi_M, zi_16, zi_20, zi_23, zi_24, zi_27, zi_29, zi_30, zi_40, zi_500, zi_700, zi_1000, true_and, and_true] at zh  <;> omega))), trivial⟩, hS.F ht⟩) hS.2.2 dX12_count_85
  · refine lv_tableIn (off := 85) (tgt := 86) hx hb dX12_count_1 (by decide) (by decide) (by decide) (by decide) ?_
    refine lv_aload_n hx hb dX12_count_86 rfl (lv_at hl 0 rfl) ?_
    refine va_get (D := (dC, dI)) (ci := 12) (v := .int 0) (C := RX12) (T := TX12) (N := 87) hx hb hts in_m_count_12 hown hK hP 0 rfl rfl 59 (by decide) (hts (.fieldLink RX12 284 "LanternHouseModel" "shows" "I") (by decide +kernel)) (fun _ h9 => h9) haM_59 dX12_count_87 ?_
    exact W.iret (v := 0) hx hb hr (fun t ht hW => ⟨⟨0, (), rfl, (by first | rfl | decide | (unfold sp_count; split <;> rename_i zh <;> first | rfl | (exfalso; simp only [Int32.lt_iff_toInt_lt, Int32.le_iff_toInt_le, ← Int32.toInt_inj, zi_m1, zi_0, zi_1, zi_6, zi_8, zi_M, zi_16, zi_20, zi_23, zi_24, zi_27, zi_29, zi_30, zi_40, zi_500, zi_700, zi_1000, true_and, and_true] at zh  <;> omega))), trivial⟩, hS.F ht⟩) hS.2.2 dX12_count_90
  · refine lv_tableIn (off := 90) (tgt := 91) hx hb dX12_count_1 (by decide) (by decide) (by decide) (by decide) ?_
    refine lv_aload_n hx hb dX12_count_91 rfl (lv_at hl 0 rfl) ?_
    refine va_get (D := (dC, dI)) (ci := 12) (v := .int 0) (C := RX12) (T := TX12) (N := 87) hx hb hts in_m_count_12 hown hK hP 0 rfl rfl 74 (by decide) (hts (.fieldLink RX12 287 "LanternHouseModel" "isMade" "Z") (by decide +kernel)) (fun _ h9 => h9) haM_74 dX12_count_92 ?_
    refine lv_if_eq (tgt := 108) hx hb dX12_count_95 (by decide) (fun _ => ?_) (fun zc => absurd zc (by decide))
    refine lv_iconst (v := (-1)) hx hb dX12_count_108 (by decide) ?_
    exact W.iret (v := (-1)) hx hb hr (fun t ht hW => ⟨⟨(-1), (), rfl, (by first | rfl | decide | (unfold sp_count; split <;> rename_i zh <;> first | rfl | (exfalso; simp only [Int32.lt_iff_toInt_lt, Int32.le_iff_toInt_le, ← Int32.toInt_inj, zi_m1, zi_0, zi_1, zi_6, zi_8, zi_M, zi_16, zi_20, zi_23, zi_24, zi_27, zi_29, zi_30, zi_40, zi_500, zi_700, zi_1000, true_and, and_true] at zh  <;> omega))), trivial⟩, hS.F ht⟩) hS.2.2 dX12_count_109
  · refine lv_tableIn (off := 109) (tgt := 110) hx hb dX12_count_1 (by decide) (by decide) (by decide) (by decide) ?_
    refine lv_aload_n hx hb dX12_count_110 rfl (lv_at hl 0 rfl) ?_
    refine va_get (D := (dC, dI)) (ci := 12) (v := .int 0) (C := RX12) (T := TX12) (N := 87) hx hb hts in_m_count_12 hown hK hP 0 rfl rfl 74 (by decide) (hts (.fieldLink RX12 287 "LanternHouseModel" "isMade" "Z") (by decide +kernel)) (fun _ h9 => h9) haM_74 dX12_count_111 ?_
    refine lv_if_eq (tgt := 124) hx hb dX12_count_114 (by decide) (fun _ => ?_) (fun zc => absurd zc (by decide))
    refine lv_iconst (v := (-1)) hx hb dX12_count_124 (by decide) ?_
    exact W.iret (v := (-1)) hx hb hr (fun t ht hW => ⟨⟨(-1), (), rfl, (by first | rfl | decide | (unfold sp_count; split <;> rename_i zh <;> first | rfl | (exfalso; simp only [Int32.lt_iff_toInt_lt, Int32.le_iff_toInt_le, ← Int32.toInt_inj, zi_m1, zi_0, zi_1, zi_6, zi_8, zi_M, zi_16, zi_20, zi_23, zi_24, zi_27, zi_29, zi_30, zi_40, zi_500, zi_700, zi_1000, true_and, and_true] at zh  <;> omega))), trivial⟩, hS.F ht⟩) hS.2.2 dX12_count_125
  · refine lv_tableIn (off := 125) (tgt := 126) hx hb dX12_count_1 (by decide) (by decide) (by decide) (by decide) ?_
    refine lv_aload_n hx hb dX12_count_126 rfl (lv_at hl 0 rfl) ?_
    refine va_get (D := (dC, dI)) (ci := 12) (v := .int 0) (C := RX12) (T := TX12) (N := 87) hx hb hts in_m_count_12 hown hK hP 0 rfl rfl 74 (by decide) (hts (.fieldLink RX12 287 "LanternHouseModel" "isMade" "Z") (by decide +kernel)) (fun _ h9 => h9) haM_74 dX12_count_127 ?_
    refine lv_if_eq (tgt := 140) hx hb dX12_count_130 (by decide) (fun _ => ?_) (fun zc => absurd zc (by decide))
    refine lv_iconst (v := (-1)) hx hb dX12_count_140 (by decide) ?_
    exact W.iret (v := (-1)) hx hb hr (fun t ht hW => ⟨⟨(-1), (), rfl, (by first | rfl | decide | (unfold sp_count; split <;> rename_i zh <;> first | rfl | (exfalso; simp only [Int32.lt_iff_toInt_lt, Int32.le_iff_toInt_le, ← Int32.toInt_inj, zi_m1, zi_0, zi_1, zi_6, zi_8, zi_M, zi_16, zi_20, zi_23, zi_24, zi_27, zi_29, zi_30, zi_40, zi_500, zi_700, zi_1000, true_and, and_true] at zh  <;> omega))), trivial⟩, hS.F ht⟩) hS.2.2 dX12_count_141
  · refine lv_tableIn (off := 141) (tgt := 142) hx hb dX12_count_1 (by decide) (by decide) (by decide) (by decide) ?_
    refine lv_aload_n hx hb dX12_count_142 rfl (lv_at hl 0 rfl) ?_
    refine va_get (D := (dC, dI)) (ci := 12) (v := .int 0) (C := RX12) (T := TX12) (N := 87) hx hb hts in_m_count_12 hown hK hP 0 rfl rfl 2 (by decide) (hts (.fieldLink RX12 204 "LanternHouseModel" "taped" "I") (by decide +kernel)) (fun _ h9 => h9) haM_2 dX12_count_143 ?_
    exact W.iret (v := 0) hx hb hr (fun t ht hW => ⟨⟨0, (), rfl, (by first | rfl | decide | (unfold sp_count; split <;> rename_i zh <;> first | rfl | (exfalso; simp only [Int32.lt_iff_toInt_lt, Int32.le_iff_toInt_le, ← Int32.toInt_inj, zi_m1, zi_0, zi_1, zi_6, zi_8, zi_M, zi_16, zi_20, zi_23, zi_24, zi_27, zi_29, zi_30, zi_40, zi_500, zi_700, zi_1000, true_and, and_true] at zh  <;> omega))), trivial⟩, hS.F ht⟩) hS.2.2 dX12_count_146
  · refine lv_tableOut (tgt := 147) hx hb dX12_count_1 hout (by decide) ?_
    refine lv_iconst (v := (-1)) hx hb dX12_count_147 (by decide) ?_
    exact W.iret (v := (-1)) hx hb hr (fun t ht hW => ⟨⟨(-1), (), rfl, (sp_count_out hout).symm, trivial⟩, hS.F ht⟩) hS.2.2 dX12_count_148

