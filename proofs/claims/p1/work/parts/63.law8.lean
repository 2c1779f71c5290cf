set_option maxHeartbeats 4000000 in
set_option maxRecDepth 100000 in
theorem lc_cancel {p : Program} {e : Env} {s : State} {m : MethodId} {below : List Frame} {meth : Method} {c : Code} (l : Launch) {b : Nat} {xs : Nat → Int32} (C0 : lw_At p s m meth c b 6 xs) (dC : Nat → ClassId) (dI : Nat → Nat → Nat) (cB cI cJ cZ cQ : ClassId) (hK : va_K (dC, dI) vwCl (zTY cB cI cJ cZ cQ) s) (hO : zAO s) (A : Nat → Prop) (hAe : A = fun q : Nat => s.heap.size ≤ q) (aHh aRah aMm : Nat) (fsaHh : List Value) (fsaRah : List Value) (fsaMm : List Value) (hlaHh : fsaHh.length = 13) (haH_3h : fsaHh[3]? = some (.ref aRah)) (hlaRah : fsaRah.length = 8) (haRa_7h : fsaRah[7]? = some (.int 0)) (hlaMm : fsaMm.length = 87) (haM_44m : fsaMm[44]? = some (.int 0)) (haM_52m : fsaMm[52]? = some (.int 0)) (s1 s2 s3 s4 s5 : Int32) (es1 : xs (1 : Int32).toNatClampNeg = s1) (es2 : xs (2 : Int32).toNatClampNeg = s2) (es3 : xs (3 : Int32).toNatClampNeg = s3) (es4 : xs (4 : Int32).toNatClampNeg = s4) (es5 : xs (5 : Int32).toNatClampNeg = s5) (H : Heap) (locs : List Loc) (ls : Array Slot) (hP : va_P (dC, dI) vwCl [(aHh, .inr (11, fsaHh)), (aRah, .inr (4, fsaRah)), (aMm, .inr (12, fsaMm))] H) (hD : va_D A [(aHh, .inr (11, fsaHh)), (aRah, .inr (4, fsaRah)), (aMm, .inr (12, fsaMm))]) (hS : va_S A s.heap H locs) (hl : lv_has ls 4 [(3, .int 0), (2, .ref aMm), (1, .ref aHh), (0, .ref b)]) : W p l e room_1 s m #[Value.ref b] below meth c H locs 139 25402 (lw_Z below #[Value.ref b] s) (F0 m 360 ls []) := by
  obtain ⟨hx, hb, hr, hml, hown0, hts0, hX, hbl, hlocks, hgv⟩ := C0
  have hts := hts0
  have hown : s.vm.findClass RL = some m.cls := hown0
  have hA : ∀ q : Nat, s.heap.size ≤ q → A q := fun q h => by rw [hAe]; exact h
  have hbA : ¬ A b := by rw [hAe]; exact Nat.not_le.mpr hbl
  refine lv_aload_n hx hb dL_law_360 rfl (lv_at hl 2 rfl) ?_
  refine lv_aload_n hx hb dL_law_361 rfl (lv_at hl 3 rfl) ?_
  refine lv_iload_n hx hb dL_law_362 rfl (lv_at hl 0 rfl) ?_
  refine lv_iconst (v := 1) hx hb dL_law_363 (by decide) ?_
  refine lv_iadd hx hb dL_law_364 ?_
  refine lv_topi (fun x1 ex1 => ?_)
  obtain rfl : x1 = 1 := ex1.trans (by decide)
  refine z_sld hx hb hX hbl hbA hS (show ¬ ((1 : Int32) < 0 ∨ 6 ≤ (1 : Int32).toNatClampNeg) from by decide) (v := s1) es1 dL_law_365 ?_
  refine lv_aload_n hx hb dL_law_366 rfl (lv_at hl 3 rfl) ?_
  refine lv_iload_n hx hb dL_law_367 rfl (lv_at hl 0 rfl) ?_
  refine lv_iconst (v := 2) hx hb dL_law_368 (by decide) ?_
  refine lv_iadd hx hb dL_law_369 ?_
  refine lv_topi (fun x2 ex2 => ?_)
  obtain rfl : x2 = 2 := ex2.trans (by decide)
  refine z_sld hx hb hX hbl hbA hS (show ¬ ((2 : Int32) < 0 ∨ 6 ≤ (2 : Int32).toNatClampNeg) from by decide) (v := s2) es2 dL_law_370 ?_
  have hPc : va_P (dC, dI) vwCl (ws_h_cancel cB cI cJ cZ cQ aHh aRah s1 s2 fsaHh fsaRah) H := hP.sub [0, 1] rfl
  have hDc := hD.sub (ws' := (ws_h_cancel cB cI cJ cZ cQ aHh aRah s1 s2 fsaHh fsaRah)) [0, 1] (by decide) rfl
  have hFc := va_free (wc := (ws_h_cancel cB cI cJ cZ cQ aHh aRah s1 s2 fsaHh fsaRah)) hD hS hA [0, 1] rfl
  refine va_calli (va_runV (As := [.int s1, .int s2]) (rest := []) ⟨hx, hb, hml, hown, hts⟩ (h_cancel l dC dI cB cI cJ cZ cQ aHh aRah s1 s2 fsaHh fsaRah H.size hlaHh haH_3h hlaRah haRa_7h) (cwV 2 hts gL_h_cancel rfl rfl rfl (by decide +kernel) ⟨Nat.le_of_ble_eq_true rfl, Nat.le_of_ble_eq_true rfl⟩) ⟨zFB, va_recv hK hP (ci := 11) (q0 := 0) rfl rfl, fun U hU hW => zUp hU hW hPc hK hO hDc⟩ rfl rfl hl.1 rfl (lv_room (Nat.le_of_ble_eq_true rfl)) dL_law_371 ⟨Nat.le_of_ble_eq_true rfl, Nat.le_of_ble_eq_true rfl⟩) hS (fun q _ h => hFc q h) hFc (fun r3 u t H1 locs ht hvm hw4 hB hz1 hk1 hS => ?_)
  have hP1 : va_P (dC, dI) vwCl [] H1 := zNilP
  have hD1 : va_D (va_A (ws_h_cancel cB cI cJ cZ cQ aHh aRah s1 s2 fsaHh fsaRah) H.size) [] := zNilD
  obtain ⟨hP, hD⟩ := va_join (wr := [(aMm, .inr (12, fsaMm))]) (w1 := []) hP hD [0, 1] [2] rfl rfl (by decide) (by decide) hk1 hFc hP1 hD1
  generalize H1 = H at hP hS ⊢
  have hP : va_P (dC, dI) vwCl [(aMm, .inr (12, fsaMm))] H := hP
  have hD : va_D A [(aMm, .inr (12, fsaMm))] := hD
  obtain rfl : r3 = (-1) := hw4
  refine lv_aload_n hx hb dL_law_374 rfl (lv_at hl 1 rfl) ?_
  refine lv_aload_n hx hb dL_law_375 rfl (lv_at hl 3 rfl) ?_
  refine lv_iload_n hx hb dL_law_376 rfl (lv_at hl 0 rfl) ?_
  refine lv_iconst (v := 1) hx hb dL_law_377 (by decide) ?_
  refine lv_iadd hx hb dL_law_378 ?_
  refine lv_topi (fun x5 ex5 => ?_)
  obtain rfl : x5 = 1 := ex5.trans (by decide)
  refine z_sld hx hb hX hbl hbA hS (show ¬ ((1 : Int32) < 0 ∨ 6 ≤ (1 : Int32).toNatClampNeg) from by decide) (v := s1) es1 dL_law_379 ?_
  refine lv_aload_n hx hb dL_law_380 rfl (lv_at hl 3 rfl) ?_
  refine lv_iload_n hx hb dL_law_381 rfl (lv_at hl 0 rfl) ?_
  refine lv_iconst (v := 2) hx hb dL_law_382 (by decide) ?_
  refine lv_iadd hx hb dL_law_383 ?_
  refine lv_topi (fun x6 ex6 => ?_)
  obtain rfl : x6 = 2 := ex6.trans (by decide)
  refine z_sld hx hb hX hbl hbA hS (show ¬ ((2 : Int32) < 0 ∨ 6 ≤ (2 : Int32).toNatClampNeg) from by decide) (v := s2) es2 dL_law_384 ?_
  have hPc : va_P (dC, dI) vwCl (ws_m_cancel cB cI cJ cZ cQ aMm s1 s2 fsaMm) H := hP.sub [0] rfl
  have hDc := hD.sub (ws' := (ws_m_cancel cB cI cJ cZ cQ aMm s1 s2 fsaMm)) [0] (by decide) rfl
  have hFc := va_free (wc := (ws_m_cancel cB cI cJ cZ cQ aMm s1 s2 fsaMm)) hD hS hA [0] rfl
  refine va_calli (va_runV (As := [.int s1, .int s2]) (rest := [.int (-1)]) ⟨hx, hb, hml, hown, hts⟩ (m_cancel l dC dI cB cI cJ cZ cQ aMm s1 s2 fsaMm H.size hlaMm haM_44m haM_52m) (cwV 2 hts gL_m_cancel rfl rfl rfl (by decide +kernel) ⟨Nat.le_of_ble_eq_true rfl, Nat.le_of_ble_eq_true rfl⟩) ⟨zFB, va_recv hK hP (ci := 12) (q0 := 0) rfl rfl, fun U hU hW => zUp hU hW hPc hK hO hDc⟩ rfl rfl hl.1 rfl (lv_room (Nat.le_of_ble_eq_true rfl)) dL_law_385 ⟨Nat.le_of_ble_eq_true rfl, Nat.le_of_ble_eq_true rfl⟩) hS (fun q _ h => hFc q h) hFc (fun r7 u t H1 locs ht hvm hw8 hB hz1 hk1 hS => ?_)
  have hP1 : va_P (dC, dI) vwCl [] H1 := zNilP
  have hD1 : va_D (va_A (ws_m_cancel cB cI cJ cZ cQ aMm s1 s2 fsaMm) H.size) [] := zNilD
  obtain ⟨hP, hD⟩ := va_join (wr := []) (w1 := []) hP hD [0] [] rfl rfl (by decide) (by decide) hk1 hFc hP1 hD1
  generalize H1 = H at hP hS ⊢
  have hP : va_P (dC, dI) vwCl [] H := hP
  have hD : va_D A [] := hD
  obtain rfl : r7 = (-1) := hw8
  refine lv_icmp_eq (tgt := 888) hx hb dL_law_388 (by decide) (fun _ => ?_) (fun zc => absurd zc (by decide))
  refine lv_iinc (v := 6) (lv' := [(3, .int 6), (2, .ref aMm), (1, .ref aHh), (0, .ref b)]) hx hb dL_law_888 hl (k := 0) rfl (by decide) (by decide) rfl (fun ls hl => ?_)
  refine lv_goto (tgt := 18) hx hb dL_law_891 (by decide) ?_
  refine lv_iload_n hx hb dL_law_18 rfl (lv_at hl 0 rfl) ?_
  refine lv_aload_n hx hb dL_law_19 rfl (lv_at hl 3 rfl) ?_
  refine va_slen hx hb hX hbl hbA hS dL_law_20 ?_
  refine lv_topi (fun x9 ex9 => ?_)
  obtain rfl : x9 = 6 := ex9.trans (by decide)
  refine lv_bipush (v := 6) hx hb dL_law_21 (by decide) ?_
  refine lv_isub hx hb dL_law_23 ?_
  refine lv_topi (fun x10 ex10 => ?_)
  obtain rfl : x10 = 0 := ex10.trans (by decide)
  refine lv_icmp_gt (tgt := 894) hx hb dL_law_24 (by decide) (fun _ => ?_) (fun zc => absurd zc (by decide))
  refine lv_iconst (v := 1) hx hb dL_law_894 (by decide) ?_
  refine va_forget (fun q hq => by have := hS.2.2 q hq; rw [hAe] at this; exact this) ?_
  refine W.widen (k := 600000) (n := 7302250) (Nat.le_of_ble_eq_true rfl) (Nat.le_of_ble_eq_true rfl) ?_
  exact lw_ret hx hb hr hlocks dL_law_895

set_option maxHeartbeats 4000000 in
set_option maxRecDepth 100000 in
theorem lc_look {p : Program} {e : Env} {s : State} {m : MethodId} {below : List Frame} {meth : Method} {c : Code} (l : Launch) {b : Nat} {xs : Nat → Int32} (C0 : lw_At p s m meth c b 6 xs) (dC : Nat → ClassId) (dI : Nat → Nat → Nat) (cB cI cJ cZ cQ : ClassId) (hK : va_K (dC, dI) vwCl (zTY cB cI cJ cZ cQ) s) (hO : zAO s) (A : Nat → Prop) (hAe : A = fun q : Nat => s.heap.size ≤ q) (aHh aSh aMm : Nat) (fsaHh : List Value) (fsaSh : List Value) (fsaMm : List Value) (hlaHh : fsaHh.length = 13) (haH_4h : fsaHh[4]? = some (.ref aSh)) (hlaSh : fsaSh.length = 3) (haS_2h : fsaSh[2]? = some (.int 0)) (hlaMm : fsaMm.length = 87) (haM_49m : fsaMm[49]? = some (.int 0)) (haM_52m : fsaMm[52]? = some (.int 0)) (s1 s2 s3 s4 s5 : Int32) (es1 : xs (1 : Int32).toNatClampNeg = s1) (es2 : xs (2 : Int32).toNatClampNeg = s2) (es3 : xs (3 : Int32).toNatClampNeg = s3) (es4 : xs (4 : Int32).toNatClampNeg = s4) (es5 : xs (5 : Int32).toNatClampNeg = s5) (H : Heap) (locs : List Loc) (ls : Array Slot) (hP : va_P (dC, dI) vwCl [(aHh, .inr (11, fsaHh)), (aSh, .inr (8, fsaSh)), (aMm, .inr (12, fsaMm))] H) (hD : va_D A [(aHh, .inr (11, fsaHh)), (aSh, .inr (8, fsaSh)), (aMm, .inr (12, fsaMm))]) (hS : va_S A s.heap H locs) (hl : lv_has ls 4 [(3, .int 0), (2, .ref aMm), (1, .ref aHh), (0, .ref b)]) : W p l e room_1 s m #[Value.ref b] below meth c H locs 139 25402 (lw_Z below #[Value.ref b] s) (F0 m 393 ls []) := by
  obtain ⟨hx, hb, hr, hml, hown0, hts0, hX, hbl, hlocks, hgv⟩ := C0
  have hts := hts0
  have hown : s.vm.findClass RL = some m.cls := hown0
  have hA : ∀ q : Nat, s.heap.size ≤ q → A q := fun q h => by rw [hAe]; exact h
  have hbA : ¬ A b := by rw [hAe]; exact Nat.not_le.mpr hbl
  refine lv_aload_n hx hb dL_law_393 rfl (lv_at hl 2 rfl) ?_
  refine lv_aload_n hx hb dL_law_394 rfl (lv_at hl 3 rfl) ?_
  refine lv_iload_n hx hb dL_law_395 rfl (lv_at hl 0 rfl) ?_
  refine lv_iconst (v := 1) hx hb dL_law_396 (by decide) ?_
  refine lv_iadd hx hb dL_law_397 ?_
  refine lv_topi (fun x1 ex1 => ?_)
  obtain rfl : x1 = 1 := ex1.trans (by decide)
  refine z_sld hx hb hX hbl hbA hS (show ¬ ((1 : Int32) < 0 ∨ 6 ≤ (1 : Int32).toNatClampNeg) from by decide) (v := s1) es1 dL_law_398 ?_
  refine lv_aload_n hx hb dL_law_399 rfl (lv_at hl 3 rfl) ?_
  refine lv_iload_n hx hb dL_law_400 rfl (lv_at hl 0 rfl) ?_
  refine lv_iconst (v := 2) hx hb dL_law_401 (by decide) ?_
  refine lv_iadd hx hb dL_law_402 ?_
  refine lv_topi (fun x2 ex2 => ?_)
  obtain rfl : x2 = 2 := ex2.trans (by decide)
  refine z_sld hx hb hX hbl hbA hS (show ¬ ((2 : Int32) < 0 ∨ 6 ≤ (2 : Int32).toNatClampNeg) from by decide) (v := s2) es2 dL_law_403 ?_
  refine lv_aload_n hx hb dL_law_404 rfl (lv_at hl 3 rfl) ?_
  refine lv_iload_n hx hb dL_law_405 rfl (lv_at hl 0 rfl) ?_
  refine lv_iconst (v := 3) hx hb dL_law_406 (by decide) ?_
  refine lv_iadd hx hb dL_law_407 ?_
  refine lv_topi (fun x3 ex3 => ?_)
  obtain rfl : x3 = 3 := ex3.trans (by decide)
  refine z_sld hx hb hX hbl hbA hS (show ¬ ((3 : Int32) < 0 ∨ 6 ≤ (3 : Int32).toNatClampNeg) from by decide) (v := s3) es3 dL_law_408 ?_
  refine lv_if_eq (tgt := 416) hx hb dL_law_409 (by decide) (fun c4 => ?_) (fun c4 => ?_)
  · skip
    refine lv_iconst (v := 0) hx hb dL_law_416 (by decide) ?_
    have hPc : va_P (dC, dI) vwCl (ws_h_look cB cI cJ cZ cQ aHh aSh s1 s2 0 fsaHh fsaSh) H := hP.sub [0, 1] rfl
    have hDc := hD.sub (ws' := (ws_h_look cB cI cJ cZ cQ aHh aSh s1 s2 0 fsaHh fsaSh)) [0, 1] (by decide) rfl
    have hFc := va_free (wc := (ws_h_look cB cI cJ cZ cQ aHh aSh s1 s2 0 fsaHh fsaSh)) hD hS hA [0, 1] rfl
    refine va_calli (va_runV (As := [.int s1, .int s2, .int 0]) (rest := []) ⟨hx, hb, hml, hown, hts⟩ (h_look l dC dI cB cI cJ cZ cQ aHh aSh s1 s2 0 fsaHh fsaSh H.size hlaHh haH_4h hlaSh haS_2h) (cwV 3 hts gL_h_look rfl rfl rfl (by decide +kernel) ⟨Nat.le_of_ble_eq_true rfl, Nat.le_of_ble_eq_true rfl⟩) ⟨zFB, va_recv hK hP (ci := 11) (q0 := 0) rfl rfl, fun U hU hW => zUp hU hW hPc hK hO hDc⟩ rfl rfl hl.1 rfl (lv_room (Nat.le_of_ble_eq_true rfl)) dL_law_417 ⟨Nat.le_of_ble_eq_true rfl, Nat.le_of_ble_eq_true rfl⟩) hS (fun q _ h => hFc q h) hFc (fun r5 u t H1 locs ht hvm hw6 hB hz1 hk1 hS => ?_)
    have hP1 : va_P (dC, dI) vwCl [] H1 := zNilP
    have hD1 : va_D (va_A (ws_h_look cB cI cJ cZ cQ aHh aSh s1 s2 0 fsaHh fsaSh) H.size) [] := zNilD
    obtain ⟨hP, hD⟩ := va_join (wr := [(aMm, .inr (12, fsaMm))]) (w1 := []) hP hD [0, 1] [2] rfl rfl (by decide) (by decide) hk1 hFc hP1 hD1
    generalize H1 = H at hP hS ⊢
    have hP : va_P (dC, dI) vwCl [(aMm, .inr (12, fsaMm))] H := hP
    have hD : va_D A [(aMm, .inr (12, fsaMm))] := hD
    obtain rfl : r5 = (-1) := hw6
    refine lv_aload_n hx hb dL_law_420 rfl (lv_at hl 1 rfl) ?_
    refine lv_aload_n hx hb dL_law_421 rfl (lv_at hl 3 rfl) ?_
    refine lv_iload_n hx hb dL_law_422 rfl (lv_at hl 0 rfl) ?_
    refine lv_iconst (v := 1) hx hb dL_law_423 (by decide) ?_
    refine lv_iadd hx hb dL_law_424 ?_
    refine lv_topi (fun x7 ex7 => ?_)
    obtain rfl : x7 = 1 := ex7.trans (by decide)
    refine z_sld hx hb hX hbl hbA hS (show ¬ ((1 : Int32) < 0 ∨ 6 ≤ (1 : Int32).toNatClampNeg) from by decide) (v := s1) es1 dL_law_425 ?_
    refine lv_aload_n hx hb dL_law_426 rfl (lv_at hl 3 rfl) ?_
    refine lv_iload_n hx hb dL_law_427 rfl (lv_at hl 0 rfl) ?_
    refine lv_iconst (v := 2) hx hb dL_law_428 (by decide) ?_
    refine lv_iadd hx hb dL_law_429 ?_
    refine lv_topi (fun x8 ex8 => ?_)
    obtain rfl : x8 = 2 := ex8.trans (by decide)
    refine z_sld hx hb hX hbl hbA hS (show ¬ ((2 : Int32) < 0 ∨ 6 ≤ (2 : Int32).toNatClampNeg) from by decide) (v := s2) es2 dL_law_430 ?_
    refine lv_aload_n hx hb dL_law_431 rfl (lv_at hl 3 rfl) ?_
    refine lv_iload_n hx hb dL_law_432 rfl (lv_at hl 0 rfl) ?_
    refine lv_iconst (v := 3) hx hb dL_law_433 (by decide) ?_
    refine lv_iadd hx hb dL_law_434 ?_
    refine lv_topi (fun x9 ex9 => ?_)
    obtain rfl : x9 = 3 := ex9.trans (by decide)
    refine z_sld hx hb hX hbl hbA hS (show ¬ ((3 : Int32) < 0 ∨ 6 ≤ (3 : Int32).toNatClampNeg) from by decide) (v := s3) es3 dL_law_435 ?_
    refine lv_if_eq (tgt := 443) hx hb dL_law_436 (by decide) (fun c10 => ?_) (fun c10 => ?_)
    · skip
      refine lv_iconst (v := 0) hx hb dL_law_443 (by decide) ?_
      have hPc : va_P (dC, dI) vwCl (ws_m_look cB cI cJ cZ cQ aMm s1 s2 0 fsaMm) H := hP.sub [0] rfl
      have hDc := hD.sub (ws' := (ws_m_look cB cI cJ cZ cQ aMm s1 s2 0 fsaMm)) [0] (by decide) rfl
      have hFc := va_free (wc := (ws_m_look cB cI cJ cZ cQ aMm s1 s2 0 fsaMm)) hD hS hA [0] rfl
      refine va_calli (va_runV (As := [.int s1, .int s2, .int 0]) (rest := [.int (-1)]) ⟨hx, hb, hml, hown, hts⟩ (m_look l dC dI cB cI cJ cZ cQ aMm s1 s2 0 fsaMm H.size hlaMm haM_49m haM_52m) (cwV 3 hts gL_m_look rfl rfl rfl (by decide +kernel) ⟨Nat.le_of_ble_eq_true rfl, Nat.le_of_ble_eq_true rfl⟩) ⟨zFB, va_recv hK hP (ci := 12) (q0 := 0) rfl rfl, fun U hU hW => zUp hU hW hPc hK hO hDc⟩ rfl rfl hl.1 rfl (lv_room (Nat.le_of_ble_eq_true rfl)) dL_law_444 ⟨Nat.le_of_ble_eq_true rfl, Nat.le_of_ble_eq_true rfl⟩) hS (fun q _ h => hFc q h) hFc (fun r11 u t H1 locs ht hvm hw12 hB hz1 hk1 hS => ?_)
      have hP1 : va_P (dC, dI) vwCl [] H1 := zNilP
      have hD1 : va_D (va_A (ws_m_look cB cI cJ cZ cQ aMm s1 s2 0 fsaMm) H.size) [] := zNilD
      obtain ⟨hP, hD⟩ := va_join (wr := []) (w1 := []) hP hD [0] [] rfl rfl (by decide) (by decide) hk1 hFc hP1 hD1
      generalize H1 = H at hP hS ⊢
      have hP : va_P (dC, dI) vwCl [] H := hP
      have hD : va_D A [] := hD
      obtain rfl : r11 = (-1) := hw12
      refine lv_icmp_eq (tgt := 888) hx hb dL_law_447 (by decide) (fun _ => ?_) (fun zc => absurd zc (by decide))
      refine lv_iinc (v := 6) (lv' := [(3, .int 6), (2, .ref aMm), (1, .ref aHh), (0, .ref b)]) hx hb dL_law_888 hl (k := 0) rfl (by decide) (by decide) rfl (fun ls hl => ?_)
      refine lv_goto (tgt := 18) hx hb dL_law_891 (by decide) ?_
      refine lv_iload_n hx hb dL_law_18 rfl (lv_at hl 0 rfl) ?_
      refine lv_aload_n hx hb dL_law_19 rfl (lv_at hl 3 rfl) ?_
      refine va_slen hx hb hX hbl hbA hS dL_law_20 ?_
      refine lv_topi (fun x13 ex13 => ?_)
      obtain rfl : x13 = 6 := ex13.trans (by decide)
      refine lv_bipush (v := 6) hx hb dL_law_21 (by decide) ?_
      refine lv_isub hx hb dL_law_23 ?_
      refine lv_topi (fun x14 ex14 => ?_)
      obtain rfl : x14 = 0 := ex14.trans (by decide)
      refine lv_icmp_gt (tgt := 894) hx hb dL_law_24 (by decide) (fun _ => ?_) (fun zc => absurd zc (by decide))
      refine lv_iconst (v := 1) hx hb dL_law_894 (by decide) ?_
      refine va_forget (fun q hq => by have := hS.2.2 q hq; rw [hAe] at this; exact this) ?_
      refine W.widen (k := 600000) (n := 7302250) (Nat.le_of_ble_eq_true rfl) (Nat.le_of_ble_eq_true rfl) ?_
      exact lw_ret hx hb hr hlocks dL_law_895
    · skip
      exfalso
      simp only [Int32.lt_iff_toInt_lt, Int32.le_iff_toInt_le, ← Int32.toInt_inj, zi_m1, zi_0, zi_1, zi_6, zi_8, zi_M, zi_16, zi_20, zi_23, zi_24, zi_27, zi_29, zi_30, zi_40, zi_500, zi_700, zi_1000] at c4 c10 <;> omega
  · skip
    refine lv_iconst (v := 1) hx hb dL_law_412 (by decide) ?_
    refine lv_goto (tgt := 417) hx hb dL_law_413 (by decide) ?_
    have hPc : va_P (dC, dI) vwCl (ws_h_look cB cI cJ cZ cQ aHh aSh s1 s2 1 fsaHh fsaSh) H := hP.sub [0, 1] rfl
    have hDc := hD.sub (ws' := (ws_h_look cB cI cJ cZ cQ aHh aSh s1 s2 1 fsaHh fsaSh)) [0, 1] (by decide) rfl
    have hFc := va_free (wc := (ws_h_look cB cI cJ cZ cQ aHh aSh s1 s2 1 fsaHh fsaSh)) hD hS hA [0, 1] rfl
    refine va_calli (va_runV (As := [.int s1, .int s2, .int 1]) (rest := []) ⟨hx, hb, hml, hown, hts⟩ (h_look l dC dI cB cI cJ cZ cQ aHh aSh s1 s2 1 fsaHh fsaSh H.size hlaHh haH_4h hlaSh haS_2h) (cwV 3 hts gL_h_look rfl rfl rfl (by decide +kernel) ⟨Nat.le_of_ble_eq_true rfl, Nat.le_of_ble_eq_true rfl⟩) ⟨zFB, va_recv hK hP (ci := 11) (q0 := 0) rfl rfl, fun U hU hW => zUp hU hW hPc hK hO hDc⟩ rfl rfl hl.1 rfl (lv_room (Nat.le_of_ble_eq_true rfl)) dL_law_417 ⟨Nat.le_of_ble_eq_true rfl, Nat.le_of_ble_eq_true rfl⟩) hS (fun q _ h => hFc q h) hFc (fun r15 u t H1 locs ht hvm hw16 hB hz1 hk1 hS => ?_)
    have hP1 : va_P (dC, dI) vwCl [] H1 := zNilP
    have hD1 : va_D (va_A (ws_h_look cB cI cJ cZ cQ aHh aSh s1 s2 1 fsaHh fsaSh) H.size) [] := zNilD
    obtain ⟨hP, hD⟩ := va_join (wr := [(aMm, .inr (12, fsaMm))]) (w1 := []) hP hD [0, 1] [2] rfl rfl (by decide) (by decide) hk1 hFc hP1 hD1
    generalize H1 = H at hP hS ⊢
    have hP : va_P (dC, dI) vwCl [(aMm, .inr (12, fsaMm))] H := hP
    have hD : va_D A [(aMm, .inr (12, fsaMm))] := hD
    obtain rfl : r15 = (-1) := hw16
    refine lv_aload_n hx hb dL_law_420 rfl (lv_at hl 1 rfl) ?_
    refine lv_aload_n hx hb dL_law_421 rfl (lv_at hl 3 rfl) ?_
    refine lv_iload_n hx hb dL_law_422 rfl (lv_at hl 0 rfl) ?_
    refine lv_iconst (v := 1) hx hb dL_law_423 (by decide) ?_
    refine lv_iadd hx hb dL_law_424 ?_
    refine lv_topi (fun x17 ex17 => ?_)
    obtain rfl : x17 = 1 := ex17.trans (by decide)
    refine z_sld hx hb hX hbl hbA hS (show ¬ ((1 : Int32) < 0 ∨ 6 ≤ (1 : Int32).toNatClampNeg) from by decide) (v := s1) es1 dL_law_425 ?_
    refine lv_aload_n hx hb dL_law_426 rfl (lv_at hl 3 rfl) ?_
    refine lv_iload_n hx hb dL_law_427 rfl (lv_at hl 0 rfl) ?_
    refine lv_iconst (v := 2) hx hb dL_law_428 (by decide) ?_
    refine lv_iadd hx hb dL_law_429 ?_
    refine lv_topi (fun x18 ex18 => ?_)
    obtain rfl : x18 = 2 := ex18.trans (by decide)
    refine z_sld hx hb hX hbl hbA hS (show ¬ ((2 : Int32) < 0 ∨ 6 ≤ (2 : Int32).toNatClampNeg) from by decide) (v := s2) es2 dL_law_430 ?_
    refine lv_aload_n hx hb dL_law_431 rfl (lv_at hl 3 rfl) ?_
    refine lv_iload_n hx hb dL_law_432 rfl (lv_at hl 0 rfl) ?_
    refine lv_iconst (v := 3) hx hb dL_law_433 (by decide) ?_
    refine lv_iadd hx hb dL_law_434 ?_
    refine lv_topi (fun x19 ex19 => ?_)
    obtain rfl : x19 = 3 := ex19.trans (by decide)
    refine z_sld hx hb hX hbl hbA hS (show ¬ ((3 : Int32) < 0 ∨ 6 ≤ (3 : Int32).toNatClampNeg) from by decide) (v := s3) es3 dL_law_435 ?_
    refine lv_if_eq (tgt := 443) hx hb dL_law_436 (by decide) (fun c20 => ?_) (fun c20 => ?_)
    · skip
      exfalso
      simp only [Int32.lt_iff_toInt_lt, Int32.le_iff_toInt_le, ← Int32.toInt_inj, zi_m1, zi_0, zi_1, zi_6, zi_8, zi_M, zi_16, zi_20, zi_23, zi_24, zi_27, zi_29, zi_30, zi_40, zi_500, zi_700, zi_1000] at c4 c20 <;> omega
    · skip
      refine lv_iconst (v := 1) hx hb dL_law_439 (by decide) ?_
      refine lv_goto (tgt := 444) hx hb dL_law_440 (by decide) ?_
      have hPc : va_P (dC, dI) vwCl (ws_m_look cB cI cJ cZ cQ aMm s1 s2 1 fsaMm) H := hP.sub [0] rfl
      have hDc := hD.sub (ws' := (ws_m_look cB cI cJ cZ cQ aMm s1 s2 1 fsaMm)) [0] (by decide) rfl
      have hFc := va_free (wc := (ws_m_look cB cI cJ cZ cQ aMm s1 s2 1 fsaMm)) hD hS hA [0] rfl
      refine va_calli (va_runV (As := [.int s1, .int s2, .int 1]) (rest := [.int (-1)]) ⟨hx, hb, hml, hown, hts⟩ (m_look l dC dI cB cI cJ cZ cQ aMm s1 s2 1 fsaMm H.size hlaMm haM_49m haM_52m) (cwV 3 hts gL_m_look rfl rfl rfl (by decide +kernel) ⟨Nat.le_of_ble_eq_true rfl, Nat.le_of_ble_eq_true rfl⟩) ⟨zFB, va_recv hK hP (ci := 12) (q0 := 0) rfl rfl, fun U hU hW => zUp hU hW hPc hK hO hDc⟩ rfl rfl hl.1 rfl (lv_room (Nat.le_of_ble_eq_true rfl)) dL_law_444 ⟨Nat.le_of_ble_eq_true rfl, Nat.le_of_ble_eq_true rfl⟩) hS (fun q _ h => hFc q h) hFc (fun r21 u t H1 locs ht hvm hw22 hB hz1 hk1 hS => ?_)
      have hP1 : va_P (dC, dI) vwCl [] H1 := zNilP
      have hD1 : va_D (va_A (ws_m_look cB cI cJ cZ cQ aMm s1 s2 1 fsaMm) H.size) [] := zNilD
      obtain ⟨hP, hD⟩ := va_join (wr := []) (w1 := []) hP hD [0] [] rfl rfl (by decide) (by decide) hk1 hFc hP1 hD1
      generalize H1 = H at hP hS ⊢
      have hP : va_P (dC, dI) vwCl [] H := hP
      have hD : va_D A [] := hD
      obtain rfl : r21 = (-1) := hw22
      refine lv_icmp_eq (tgt := 888) hx hb dL_law_447 (by decide) (fun _ => ?_) (fun zc => absurd zc (by decide))
      refine lv_iinc (v := 6) (lv' := [(3, .int 6), (2, .ref aMm), (1, .ref aHh), (0, .ref b)]) hx hb dL_law_888 hl (k := 0) rfl (by decide) (by decide) rfl (fun ls hl => ?_)
      refine lv_goto (tgt := 18) hx hb dL_law_891 (by decide) ?_
      refine lv_iload_n hx hb dL_law_18 rfl (lv_at hl 0 rfl) ?_
      refine lv_aload_n hx hb dL_law_19 rfl (lv_at hl 3 rfl) ?_
      refine va_slen hx hb hX hbl hbA hS dL_law_20 ?_
      refine lv_topi (fun x23 ex23 => ?_)
      obtain rfl : x23 = 6 := ex23.trans (by decide)
      refine lv_bipush (v := 6) hx hb dL_law_21 (by decide) ?_
      refine lv_isub hx hb dL_law_23 ?_
      refine lv_topi (fun x24 ex24 => ?_)
      obtain rfl : x24 = 0 := ex24.trans (by decide)
      refine lv_icmp_gt (tgt := 894) hx hb dL_law_24 (by decide) (fun _ => ?_) (fun zc => absurd zc (by decide))
      refine lv_iconst (v := 1) hx hb dL_law_894 (by decide) ?_
      refine va_forget (fun q hq => by have := hS.2.2 q hq; rw [hAe] at this; exact this) ?_
      refine W.widen (k := 600000) (n := 7302250) (Nat.le_of_ble_eq_true rfl) (Nat.le_of_ble_eq_true rfl) ?_
      exact lw_ret hx hb hr hlocks dL_law_895

set_option maxHeartbeats 4000000 in
set_option maxRecDepth 100000 in
theorem lc_show {p : Program} {e : Env} {s : State} {m : MethodId} {below : List Frame} {meth : Method} {c : Code} (l : Launch) {b : Nat} {xs : Nat → Int32} (C0 : lw_At p s m meth c b 6 xs) (dC : Nat → ClassId) (dI : Nat → Nat → Nat) (cB cI cJ cZ cQ : ClassId) (hK : va_K (dC, dI) vwCl (zTY cB cI cJ cZ cQ) s) (hO : zAO s) (A : Nat → Prop) (hAe : A = fun q : Nat => s.heap.size ≤ q) (aHh aRah aShh aXh aMm qLem : Nat) (fLem : Nat → Int32) (fsaHh : List Value) (fsaRah : List Value) (fsaShh : List Value) (fsaXh : List Value) (fsaMm : List Value) (hlaHh : fsaHh.length = 13) (haH_3h : fsaHh[3]? = some (.ref aRah)) (haH_6h : fsaHh[6]? = some (.ref aShh)) (hlaRah : fsaRah.length = 8) (haRa_6h : fsaRah[6]? = some (.int 1)) (hlaShh : fsaShh.length = 8) (haSh_6h : fsaShh[6]? = some (.int 0)) (haSh_7h : fsaShh[7]? = some (.ref aXh)) (hlaXh : fsaXh.length = 13) (haX_12h : fsaXh[12]? = some (.int 0)) (hlaMm : fsaMm.length = 87) (haM_18m : fsaMm[18]? = some (.int 0)) (haM_20m : fsaMm[20]? = some (.ref qLem)) (haM_43m : fsaMm[43]? = some (.int 1)) (haM_59m : fsaMm[59]? = some (.int 0)) (hLe0m : fLem (0 : Int32).toNatClampNeg = 0) (s1 s2 s3 s4 s5 : Int32) (es1 : xs (1 : Int32).toNatClampNeg = s1) (es2 : xs (2 : Int32).toNatClampNeg = s2) (es3 : xs (3 : Int32).toNatClampNeg = s3) (es4 : xs (4 : Int32).toNatClampNeg = s4) (es5 : xs (5 : Int32).toNatClampNeg = s5) (H : Heap) (locs : List Loc) (ls : Array Slot) (hP : va_P (dC, dI) vwCl [(aHh, .inr (11, fsaHh)), (aRah, .inr (4, fsaRah)), (aShh, .inr (7, fsaShh)), (aXh, .inr (2, fsaXh)), (aMm, .inr (12, fsaMm)), (qLem, .inl (cI, 2, .inl fLem))] H) (hD : va_D A [(aHh, .inr (11, fsaHh)), (aRah, .inr (4, fsaRah)), (aShh, .inr (7, fsaShh)), (aXh, .inr (2, fsaXh)), (aMm, .inr (12, fsaMm)), (qLem, .inl (cI, 2, .inl fLem))]) (hS : va_S A s.heap H locs) (hl : lv_has ls 4 [(3, .int 0), (2, .ref aMm), (1, .ref aHh), (0, .ref b)]) : W p l e room_1 s m #[Value.ref b] below meth c H locs 139 25402 (lw_Z below #[Value.ref b] s) (F0 m 452 ls []) := by
  obtain ⟨hx, hb, hr, hml, hown0, hts0, hX, hbl, hlocks, hgv⟩ := C0
  have hts := hts0
  have hown : s.vm.findClass RL = some m.cls := hown0
  have hA : ∀ q : Nat, s.heap.size ≤ q → A q := fun q h => by rw [hAe]; exact h
  have hbA : ¬ A b := by rw [hAe]; exact Nat.not_le.mpr hbl
  refine lv_aload_n hx hb dL_law_452 rfl (lv_at hl 2 rfl) ?_
  refine lv_aload_n hx hb dL_law_453 rfl (lv_at hl 3 rfl) ?_
  refine lv_iload_n hx hb dL_law_454 rfl (lv_at hl 0 rfl) ?_
  refine lv_iconst (v := 1) hx hb dL_law_455 (by decide) ?_
  refine lv_iadd hx hb dL_law_456 ?_
  refine lv_topi (fun x1 ex1 => ?_)
  obtain rfl : x1 = 1 := ex1.trans (by decide)
  refine z_sld hx hb hX hbl hbA hS (show ¬ ((1 : Int32) < 0 ∨ 6 ≤ (1 : Int32).toNatClampNeg) from by decide) (v := s1) es1 dL_law_457 ?_
  refine lv_aload_n hx hb dL_law_458 rfl (lv_at hl 3 rfl) ?_
  refine lv_iload_n hx hb dL_law_459 rfl (lv_at hl 0 rfl) ?_
  refine lv_iconst (v := 2) hx hb dL_law_460 (by decide) ?_
  refine lv_iadd hx hb dL_law_461 ?_
  refine lv_topi (fun x2 ex2 => ?_)
  obtain rfl : x2 = 2 := ex2.trans (by decide)
  refine z_sld hx hb hX hbl hbA hS (show ¬ ((2 : Int32) < 0 ∨ 6 ≤ (2 : Int32).toNatClampNeg) from by decide) (v := s2) es2 dL_law_462 ?_
  refine lv_aload_n hx hb dL_law_463 rfl (lv_at hl 3 rfl) ?_
  refine lv_iload_n hx hb dL_law_464 rfl (lv_at hl 0 rfl) ?_
  refine lv_iconst (v := 3) hx hb dL_law_465 (by decide) ?_
  refine lv_iadd hx hb dL_law_466 ?_
  refine lv_topi (fun x3 ex3 => ?_)
  obtain rfl : x3 = 3 := ex3.trans (by decide)
  refine z_sld hx hb hX hbl hbA hS (show ¬ ((3 : Int32) < 0 ∨ 6 ≤ (3 : Int32).toNatClampNeg) from by decide) (v := s3) es3 dL_law_467 ?_
  refine lv_aload_n hx hb dL_law_468 rfl (lv_at hl 3 rfl) ?_
  refine lv_iload_n hx hb dL_law_469 rfl (lv_at hl 0 rfl) ?_
  refine lv_iconst (v := 4) hx hb dL_law_470 (by decide) ?_
  refine lv_iadd hx hb dL_law_471 ?_
  refine lv_topi (fun x4 ex4 => ?_)
  obtain rfl : x4 = 4 := ex4.trans (by decide)
  refine z_sld hx hb hX hbl hbA hS (show ¬ ((4 : Int32) < 0 ∨ 6 ≤ (4 : Int32).toNatClampNeg) from by decide) (v := s4) es4 dL_law_472 ?_
  refine lv_aload_n hx hb dL_law_473 rfl (lv_at hl 3 rfl) ?_
  refine lv_iload_n hx hb dL_law_474 rfl (lv_at hl 0 rfl) ?_
  refine lv_iconst (v := 5) hx hb dL_law_475 (by decide) ?_
  refine lv_iadd hx hb dL_law_476 ?_
  refine lv_topi (fun x5 ex5 => ?_)
  obtain rfl : x5 = 5 := ex5.trans (by decide)
  refine z_sld hx hb hX hbl hbA hS (show ¬ ((5 : Int32) < 0 ∨ 6 ≤ (5 : Int32).toNatClampNeg) from by decide) (v := s5) es5 dL_law_477 ?_
  have hPc : va_P (dC, dI) vwCl (ws_h_show cB cI cJ cZ cQ aHh aRah aShh aXh s1 s2 s3 s4 s5 fsaHh fsaRah fsaShh fsaXh) H := hP.sub [0, 1, 2, 3] rfl
  have hDc := hD.sub (ws' := (ws_h_show cB cI cJ cZ cQ aHh aRah aShh aXh s1 s2 s3 s4 s5 fsaHh fsaRah fsaShh fsaXh)) [0, 1, 2, 3] (by decide) rfl
  have hFc := va_free (wc := (ws_h_show cB cI cJ cZ cQ aHh aRah aShh aXh s1 s2 s3 s4 s5 fsaHh fsaRah fsaShh fsaXh)) hD hS hA [0, 1, 2, 3] rfl
  refine va_calli (va_runV (As := [.int s1, .int s2, .int s3, .int s4, .int s5]) (rest := []) ⟨hx, hb, hml, hown, hts⟩ (h_show l dC dI cB cI cJ cZ cQ aHh aRah aShh aXh s1 s2 s3 s4 s5 fsaHh fsaRah fsaShh fsaXh H.size hlaHh haH_3h haH_6h hlaRah haRa_6h hlaShh haSh_6h haSh_7h hlaXh haX_12h) (cwV 5 hts gL_h_show rfl rfl rfl (by decide +kernel) ⟨Nat.le_of_ble_eq_true rfl, Nat.le_of_ble_eq_true rfl⟩) ⟨zFB, va_recv hK hP (ci := 11) (q0 := 0) rfl rfl, fun U hU hW => zUp hU hW hPc hK hO hDc⟩ rfl rfl hl.1 rfl (lv_room (Nat.le_of_ble_eq_true rfl)) dL_law_478 ⟨Nat.le_of_ble_eq_true rfl, Nat.le_of_ble_eq_true rfl⟩) hS (fun q _ h => hFc q h) hFc (fun r6 u t H1 locs ht hvm hw7 hB hz1 hk1 hS => ?_)
  have hP1 : va_P (dC, dI) vwCl [] H1 := zNilP
  have hD1 : va_D (va_A (ws_h_show cB cI cJ cZ cQ aHh aRah aShh aXh s1 s2 s3 s4 s5 fsaHh fsaRah fsaShh fsaXh) H.size) [] := zNilD
  obtain ⟨hP, hD⟩ := va_join (wr := [(aMm, .inr (12, fsaMm)), (qLem, .inl (cI, 2, .inl fLem))]) (w1 := []) hP hD [0, 1, 2, 3] [4, 5] rfl rfl (by decide) (by decide) hk1 hFc hP1 hD1
  generalize H1 = H at hP hS ⊢
  have hP : va_P (dC, dI) vwCl [(aMm, .inr (12, fsaMm)), (qLem, .inl (cI, 2, .inl fLem))] H := hP
  have hD : va_D A [(aMm, .inr (12, fsaMm)), (qLem, .inl (cI, 2, .inl fLem))] := hD
  obtain rfl : r6 = (-1) := hw7
  refine lv_aload_n hx hb dL_law_481 rfl (lv_at hl 1 rfl) ?_
  refine lv_aload_n hx hb dL_law_482 rfl (lv_at hl 3 rfl) ?_
  refine lv_iload_n hx hb dL_law_483 rfl (lv_at hl 0 rfl) ?_
  refine lv_iconst (v := 1) hx hb dL_law_484 (by decide) ?_
  refine lv_iadd hx hb dL_law_485 ?_
  refine lv_topi (fun x8 ex8 => ?_)
  obtain rfl : x8 = 1 := ex8.trans (by decide)
  refine z_sld hx hb hX hbl hbA hS (show ¬ ((1 : Int32) < 0 ∨ 6 ≤ (1 : Int32).toNatClampNeg) from by decide) (v := s1) es1 dL_law_486 ?_
  refine lv_aload_n hx hb dL_law_487 rfl (lv_at hl 3 rfl) ?_
  refine lv_iload_n hx hb dL_law_488 rfl (lv_at hl 0 rfl) ?_
  refine lv_iconst (v := 2) hx hb dL_law_489 (by decide) ?_
  refine lv_iadd hx hb dL_law_490 ?_
  refine lv_topi (fun x9 ex9 => ?_)
  obtain rfl : x9 = 2 := ex9.trans (by decide)
  refine z_sld hx hb hX hbl hbA hS (show ¬ ((2 : Int32) < 0 ∨ 6 ≤ (2 : Int32).toNatClampNeg) from by decide) (v := s2) es2 dL_law_491 ?_
  refine lv_aload_n hx hb dL_law_492 rfl (lv_at hl 3 rfl) ?_
  refine lv_iload_n hx hb dL_law_493 rfl (lv_at hl 0 rfl) ?_
  refine lv_iconst (v := 3) hx hb dL_law_494 (by decide) ?_
  refine lv_iadd hx hb dL_law_495 ?_
  refine lv_topi (fun x10 ex10 => ?_)
  obtain rfl : x10 = 3 := ex10.trans (by decide)
  refine z_sld hx hb hX hbl hbA hS (show ¬ ((3 : Int32) < 0 ∨ 6 ≤ (3 : Int32).toNatClampNeg) from by decide) (v := s3) es3 dL_law_496 ?_
  refine lv_aload_n hx hb dL_law_497 rfl (lv_at hl 3 rfl) ?_
  refine lv_iload_n hx hb dL_law_498 rfl (lv_at hl 0 rfl) ?_
  refine lv_iconst (v := 4) hx hb dL_law_499 (by decide) ?_
  refine lv_iadd hx hb dL_law_500 ?_
  refine lv_topi (fun x11 ex11 => ?_)
  obtain rfl : x11 = 4 := ex11.trans (by decide)
  refine z_sld hx hb hX hbl hbA hS (show ¬ ((4 : Int32) < 0 ∨ 6 ≤ (4 : Int32).toNatClampNeg) from by decide) (v := s4) es4 dL_law_501 ?_
  refine lv_aload_n hx hb dL_law_502 rfl (lv_at hl 3 rfl) ?_
  refine lv_iload_n hx hb dL_law_503 rfl (lv_at hl 0 rfl) ?_
  refine lv_iconst (v := 5) hx hb dL_law_504 (by decide) ?_
  refine lv_iadd hx hb dL_law_505 ?_
  refine lv_topi (fun x12 ex12 => ?_)
  obtain rfl : x12 = 5 := ex12.trans (by decide)
  refine z_sld hx hb hX hbl hbA hS (show ¬ ((5 : Int32) < 0 ∨ 6 ≤ (5 : Int32).toNatClampNeg) from by decide) (v := s5) es5 dL_law_506 ?_
  have hPc : va_P (dC, dI) vwCl (ws_m_show cB cI cJ cZ cQ aMm qLem s1 s2 s3 s4 s5 fLem fsaMm) H := hP.sub [0, 1] rfl
  have hDc := hD.sub (ws' := (ws_m_show cB cI cJ cZ cQ aMm qLem s1 s2 s3 s4 s5 fLem fsaMm)) [0, 1] (by decide) rfl
  have hFc := va_free (wc := (ws_m_show cB cI cJ cZ cQ aMm qLem s1 s2 s3 s4 s5 fLem fsaMm)) hD hS hA [0, 1] rfl
  refine va_calli (va_runV (As := [.int s1, .int s2, .int s3, .int s4, .int s5]) (rest := [.int (-1)]) ⟨hx, hb, hml, hown, hts⟩ (m_show l dC dI cB cI cJ cZ cQ aMm qLem s1 s2 s3 s4 s5 fLem fsaMm H.size hLe0m hlaMm haM_18m haM_20m haM_43m haM_59m) (cwV 5 hts gL_m_show rfl rfl rfl (by decide +kernel) ⟨Nat.le_of_ble_eq_true rfl, Nat.le_of_ble_eq_true rfl⟩) ⟨zFB, va_recv hK hP (ci := 12) (q0 := 0) rfl rfl, fun U hU hW => zUp hU hW hPc hK hO hDc⟩ rfl rfl hl.1 rfl (lv_room (Nat.le_of_ble_eq_true rfl)) dL_law_507 ⟨Nat.le_of_ble_eq_true rfl, Nat.le_of_ble_eq_true rfl⟩) hS (fun q _ h => hFc q h) hFc (fun r13 u t H1 locs ht hvm hw14 hB hz1 hk1 hS => ?_)
  have hP1 : va_P (dC, dI) vwCl [] H1 := zNilP
  have hD1 : va_D (va_A (ws_m_show cB cI cJ cZ cQ aMm qLem s1 s2 s3 s4 s5 fLem fsaMm) H.size) [] := zNilD
  obtain ⟨hP, hD⟩ := va_join (wr := []) (w1 := []) hP hD [0, 1] [] rfl rfl (by decide) (by decide) hk1 hFc hP1 hD1
  generalize H1 = H at hP hS ⊢
  have hP : va_P (dC, dI) vwCl [] H := hP
  have hD : va_D A [] := hD
  obtain rfl : r13 = (-1) := hw14
  refine lv_icmp_eq (tgt := 888) hx hb dL_law_510 (by decide) (fun _ => ?_) (fun zc => absurd zc (by decide))
  refine lv_iinc (v := 6) (lv' := [(3, .int 6), (2, .ref aMm), (1, .ref aHh), (0, .ref b)]) hx hb dL_law_888 hl (k := 0) rfl (by decide) (by decide) rfl (fun ls hl => ?_)
  refine lv_goto (tgt := 18) hx hb dL_law_891 (by decide) ?_
  refine lv_iload_n hx hb dL_law_18 rfl (lv_at hl 0 rfl) ?_
  refine lv_aload_n hx hb dL_law_19 rfl (lv_at hl 3 rfl) ?_
  refine va_slen hx hb hX hbl hbA hS dL_law_20 ?_
  refine lv_topi (fun x15 ex15 => ?_)
  obtain rfl : x15 = 6 := ex15.trans (by decide)
  refine lv_bipush (v := 6) hx hb dL_law_21 (by decide) ?_
  refine lv_isub hx hb dL_law_23 ?_
  refine lv_topi (fun x16 ex16 => ?_)
  obtain rfl : x16 = 0 := ex16.trans (by decide)
  refine lv_icmp_gt (tgt := 894) hx hb dL_law_24 (by decide) (fun _ => ?_) (fun zc => absurd zc (by decide))
  refine lv_iconst (v := 1) hx hb dL_law_894 (by decide) ?_
  refine va_forget (fun q hq => by have := hS.2.2 q hq; rw [hAe] at this; exact this) ?_
  refine W.widen (k := 600000) (n := 7302250) (Nat.le_of_ble_eq_true rfl) (Nat.le_of_ble_eq_true rfl) ?_
  exact lw_ret hx hb hr hlocks dL_law_895

set_option maxHeartbeats 4000000 in
set_option maxRecDepth 100000 in
theorem lc_way {p : Program} {e : Env} {s : State} {m : MethodId} {below : List Frame} {meth : Method} {c : Code} (l : Launch) {b : Nat} {xs : Nat → Int32} (C0 : lw_At p s m meth c b 6 xs) (dC : Nat → ClassId) (dI : Nat → Nat → Nat) (cB cI cJ cZ cQ : ClassId) (hK : va_K (dC, dI) vwCl (zTY cB cI cJ cZ cQ) s) (hO : zAO s) (A : Nat → Prop) (hAe : A = fun q : Nat => s.heap.size ≤ q) (aHh aRah qIdh qReh aFh aMm qStm qSom : Nat) (fIdh : Nat → Int64) (fRh : Nat → Int32) (fStm : Nat → Int32) (fSom : Nat → Int32) (fsaHh : List Value) (fsaRah : List Value) (fsaFh : List Value) (fsaMm : List Value) (hlaHh : fsaHh.length = 13) (haH_3h : fsaHh[3]? = some (.ref aRah)) (haH_5h : fsaHh[5]? = some (.ref aFh)) (hlaRah : fsaRah.length = 8) (haRa_4h : fsaRah[4]? = some (.ref qIdh)) (haRa_5h : fsaRah[5]? = some (.ref qReh)) (haRa_6h : fsaRah[6]? = some (.int 1)) (haRa_7h : fsaRah[7]? = some (.int 0)) (hlaFh : fsaFh.length = 5) (haF_4h : fsaFh[4]? = some (.int 0)) (hlaMm : fsaMm.length = 87) (haM_43m : fsaMm[43]? = some (.int 1)) (haM_44m : fsaMm[44]? = some (.int 0)) (haM_52m : fsaMm[52]? = some (.int 0)) (haM_56m : fsaMm[56]? = some (.int (-1))) (haM_57m : fsaMm[57]? = some (.ref qStm)) (haM_58m : fsaMm[58]? = some (.ref qSom)) (s1 s2 s3 s4 s5 : Int32) (es1 : xs (1 : Int32).toNatClampNeg = s1) (es2 : xs (2 : Int32).toNatClampNeg = s2) (es3 : xs (3 : Int32).toNatClampNeg = s3) (es4 : xs (4 : Int32).toNatClampNeg = s4) (es5 : xs (5 : Int32).toNatClampNeg = s5) (H : Heap) (locs : List Loc) (ls : Array Slot) (hP : va_P (dC, dI) vwCl [(aHh, .inr (11, fsaHh)), (aRah, .inr (4, fsaRah)), (qIdh, .inl (cJ, 16, .inr (.inl fIdh))), (qReh, .inl (cI, 6, .inl fRh)), (aFh, .inr (0, fsaFh)), (aMm, .inr (12, fsaMm)), (qStm, .inl (cZ, 656, .inl fStm)), (qSom, .inl (cI, 6, .inl fSom))] H) (hD : va_D A [(aHh, .inr (11, fsaHh)), (aRah, .inr (4, fsaRah)), (qIdh, .inl (cJ, 16, .inr (.inl fIdh))), (qReh, .inl (cI, 6, .inl fRh)), (aFh, .inr (0, fsaFh)), (aMm, .inr (12, fsaMm)), (qStm, .inl (cZ, 656, .inl fStm)), (qSom, .inl (cI, 6, .inl fSom))]) (hS : va_S A s.heap H locs) (hl : lv_has ls 4 [(3, .int 0), (2, .ref aMm), (1, .ref aHh), (0, .ref b)]) : W p l e room_1 s m #[Value.ref b] below meth c H locs 139 25402 (lw_Z below #[Value.ref b] s) (F0 m 515 ls []) := by
  obtain ⟨hx, hb, hr, hml, hown0, hts0, hX, hbl, hlocks, hgv⟩ := C0
  have hts := hts0
  have hown : s.vm.findClass RL = some m.cls := hown0
  have hA : ∀ q : Nat, s.heap.size ≤ q → A q := fun q h => by rw [hAe]; exact h
  have hbA : ¬ A b := by rw [hAe]; exact Nat.not_le.mpr hbl
  refine lv_aload_n hx hb dL_law_515 rfl (lv_at hl 2 rfl) ?_
  refine lv_aload_n hx hb dL_law_516 rfl (lv_at hl 3 rfl) ?_
  refine lv_iload_n hx hb dL_law_517 rfl (lv_at hl 0 rfl) ?_
  refine lv_iconst (v := 1) hx hb dL_law_518 (by decide) ?_
  refine lv_iadd hx hb dL_law_519 ?_
  refine lv_topi (fun x1 ex1 => ?_)
  obtain rfl : x1 = 1 := ex1.trans (by decide)
  refine z_sld hx hb hX hbl hbA hS (show ¬ ((1 : Int32) < 0 ∨ 6 ≤ (1 : Int32).toNatClampNeg) from by decide) (v := s1) es1 dL_law_520 ?_
  refine lv_aload_n hx hb dL_law_521 rfl (lv_at hl 3 rfl) ?_
  refine lv_iload_n hx hb dL_law_522 rfl (lv_at hl 0 rfl) ?_
  refine lv_iconst (v := 2) hx hb dL_law_523 (by decide) ?_
  refine lv_iadd hx hb dL_law_524 ?_
  refine lv_topi (fun x2 ex2 => ?_)
  obtain rfl : x2 = 2 := ex2.trans (by decide)
  refine z_sld hx hb hX hbl hbA hS (show ¬ ((2 : Int32) < 0 ∨ 6 ≤ (2 : Int32).toNatClampNeg) from by decide) (v := s2) es2 dL_law_525 ?_
  refine lv_aload_n hx hb dL_law_526 rfl (lv_at hl 3 rfl) ?_
  refine lv_iload_n hx hb dL_law_527 rfl (lv_at hl 0 rfl) ?_
  refine lv_iconst (v := 3) hx hb dL_law_528 (by decide) ?_
  refine lv_iadd hx hb dL_law_529 ?_
  refine lv_topi (fun x3 ex3 => ?_)
  obtain rfl : x3 = 3 := ex3.trans (by decide)
  refine z_sld hx hb hX hbl hbA hS (show ¬ ((3 : Int32) < 0 ∨ 6 ≤ (3 : Int32).toNatClampNeg) from by decide) (v := s3) es3 dL_law_530 ?_
  refine lv_aload_n hx hb dL_law_531 rfl (lv_at hl 3 rfl) ?_
  refine lv_iload_n hx hb dL_law_532 rfl (lv_at hl 0 rfl) ?_
  refine lv_iconst (v := 4) hx hb dL_law_533 (by decide) ?_
  refine lv_iadd hx hb dL_law_534 ?_
  refine lv_topi (fun x4 ex4 => ?_)
  obtain rfl : x4 = 4 := ex4.trans (by decide)
  refine z_sld hx hb hX hbl hbA hS (show ¬ ((4 : Int32) < 0 ∨ 6 ≤ (4 : Int32).toNatClampNeg) from by decide) (v := s4) es4 dL_law_535 ?_
  have hPc : va_P (dC, dI) vwCl (ws_h_way cB cI cJ cZ cQ aHh aRah qIdh qReh aFh s1 s2 s3 s4 fIdh fRh fsaHh fsaRah fsaFh) H := hP.sub [0, 1, 2, 3, 4] rfl
  have hDc := hD.sub (ws' := (ws_h_way cB cI cJ cZ cQ aHh aRah qIdh qReh aFh s1 s2 s3 s4 fIdh fRh fsaHh fsaRah fsaFh)) [0, 1, 2, 3, 4] (by decide) rfl
  have hFc := va_free (wc := (ws_h_way cB cI cJ cZ cQ aHh aRah qIdh qReh aFh s1 s2 s3 s4 fIdh fRh fsaHh fsaRah fsaFh)) hD hS hA [0, 1, 2, 3, 4] rfl
  refine va_calli (va_runV (As := [.int s1, .int s2, .int s3, .int s4]) (rest := []) ⟨hx, hb, hml, hown, hts⟩ (h_way l dC dI cB cI cJ cZ cQ aHh aRah qIdh qReh aFh s1 s2 s3 s4 fIdh fRh fsaHh fsaRah fsaFh H.size hlaHh haH_3h haH_5h hlaRah haRa_4h haRa_5h haRa_6h haRa_7h hlaFh haF_4h) (cwV 4 hts gL_h_way rfl rfl rfl (by decide +kernel) ⟨Nat.le_of_ble_eq_true rfl, Nat.le_of_ble_eq_true rfl⟩) ⟨zFB, va_recv hK hP (ci := 11) (q0 := 0) rfl rfl, fun U hU hW => zUp hU hW hPc hK hO hDc⟩ rfl rfl hl.1 rfl (lv_room (Nat.le_of_ble_eq_true rfl)) dL_law_536 ⟨Nat.le_of_ble_eq_true rfl, Nat.le_of_ble_eq_true rfl⟩) hS (fun q _ h => hFc q h) hFc (fun r5 u t H1 locs ht hvm hw6 hB hz1 hk1 hS => ?_)
  have hP1 : va_P (dC, dI) vwCl [] H1 := zNilP
  have hD1 : va_D (va_A (ws_h_way cB cI cJ cZ cQ aHh aRah qIdh qReh aFh s1 s2 s3 s4 fIdh fRh fsaHh fsaRah fsaFh) H.size) [] := zNilD
  obtain ⟨hP, hD⟩ := va_join (wr := [(aMm, .inr (12, fsaMm)), (qStm, .inl (cZ, 656, .inl fStm)), (qSom, .inl (cI, 6, .inl fSom))]) (w1 := []) hP hD [0, 1, 2, 3, 4] [5, 6, 7] rfl rfl (by decide) (by decide) hk1 hFc hP1 hD1
  generalize H1 = H at hP hS ⊢
  have hP : va_P (dC, dI) vwCl [(aMm, .inr (12, fsaMm)), (qStm, .inl (cZ, 656, .inl fStm)), (qSom, .inl (cI, 6, .inl fSom))] H := hP
  have hD : va_D A [(aMm, .inr (12, fsaMm)), (qStm, .inl (cZ, 656, .inl fStm)), (qSom, .inl (cI, 6, .inl fSom))] := hD
  refine lv_aload_n hx hb dL_law_539 rfl (lv_at hl 1 rfl) ?_
  refine lv_aload_n hx hb dL_law_540 rfl (lv_at hl 3 rfl) ?_
  refine lv_iload_n hx hb dL_law_541 rfl (lv_at hl 0 rfl) ?_
  refine lv_iconst (v := 1) hx hb dL_law_542 (by decide) ?_
  refine lv_iadd hx hb dL_law_543 ?_
  refine lv_topi (fun x7 ex7 => ?_)
  obtain rfl : x7 = 1 := ex7.trans (by decide)
  refine z_sld hx hb hX hbl hbA hS (show ¬ ((1 : Int32) < 0 ∨ 6 ≤ (1 : Int32).toNatClampNeg) from by decide) (v := s1) es1 dL_law_544 ?_
  refine lv_aload_n hx hb dL_law_545 rfl (lv_at hl 3 rfl) ?_
  refine lv_iload_n hx hb dL_law_546 rfl (lv_at hl 0 rfl) ?_
  refine lv_iconst (v := 2) hx hb dL_law_547 (by decide) ?_
  refine lv_iadd hx hb dL_law_548 ?_
  refine lv_topi (fun x8 ex8 => ?_)
  obtain rfl : x8 = 2 := ex8.trans (by decide)
  refine z_sld hx hb hX hbl hbA hS (show ¬ ((2 : Int32) < 0 ∨ 6 ≤ (2 : Int32).toNatClampNeg) from by decide) (v := s2) es2 dL_law_549 ?_
  refine lv_aload_n hx hb dL_law_550 rfl (lv_at hl 3 rfl) ?_
  refine lv_iload_n hx hb dL_law_551 rfl (lv_at hl 0 rfl) ?_
  refine lv_iconst (v := 3) hx hb dL_law_552 (by decide) ?_
  refine lv_iadd hx hb dL_law_553 ?_
  refine lv_topi (fun x9 ex9 => ?_)
  obtain rfl : x9 = 3 := ex9.trans (by decide)
  refine z_sld hx hb hX hbl hbA hS (show ¬ ((3 : Int32) < 0 ∨ 6 ≤ (3 : Int32).toNatClampNeg) from by decide) (v := s3) es3 dL_law_554 ?_
  refine lv_aload_n hx hb dL_law_555 rfl (lv_at hl 3 rfl) ?_
  refine lv_iload_n hx hb dL_law_556 rfl (lv_at hl 0 rfl) ?_
  refine lv_iconst (v := 4) hx hb dL_law_557 (by decide) ?_
  refine lv_iadd hx hb dL_law_558 ?_
  refine lv_topi (fun x10 ex10 => ?_)
  obtain rfl : x10 = 4 := ex10.trans (by decide)
  refine z_sld hx hb hX hbl hbA hS (show ¬ ((4 : Int32) < 0 ∨ 6 ≤ (4 : Int32).toNatClampNeg) from by decide) (v := s4) es4 dL_law_559 ?_
  have hPc : va_P (dC, dI) vwCl (ws_m_way cB cI cJ cZ cQ aMm qStm qSom s1 s2 s3 s4 fStm fSom fsaMm) H := hP.sub [0, 1, 2] rfl
  have hDc := hD.sub (ws' := (ws_m_way cB cI cJ cZ cQ aMm qStm qSom s1 s2 s3 s4 fStm fSom fsaMm)) [0, 1, 2] (by decide) rfl
  have hFc := va_free (wc := (ws_m_way cB cI cJ cZ cQ aMm qStm qSom s1 s2 s3 s4 fStm fSom fsaMm)) hD hS hA [0, 1, 2] rfl
  refine va_calli (va_runV (As := [.int s1, .int s2, .int s3, .int s4]) (rest := [.int r5]) ⟨hx, hb, hml, hown, hts⟩ (m_way l dC dI cB cI cJ cZ cQ aMm qStm qSom s1 s2 s3 s4 fStm fSom fsaMm H.size hlaMm haM_43m haM_44m haM_52m haM_56m haM_57m haM_58m) (cwV 4 hts gL_m_way rfl rfl rfl (by decide +kernel) ⟨Nat.le_of_ble_eq_true rfl, Nat.le_of_ble_eq_true rfl⟩) ⟨zFB, va_recv hK hP (ci := 12) (q0 := 0) rfl rfl, fun U hU hW => zUp hU hW hPc hK hO hDc⟩ rfl rfl hl.1 rfl (lv_room (Nat.le_of_ble_eq_true rfl)) dL_law_560 ⟨Nat.le_of_ble_eq_true rfl, Nat.le_of_ble_eq_true rfl⟩) hS (fun q _ h => hFc q h) hFc (fun r11 u t H1 locs ht hvm hw12 hB hz1 hk1 hS => ?_)
  have hP1 : va_P (dC, dI) vwCl [] H1 := zNilP
  have hD1 : va_D (va_A (ws_m_way cB cI cJ cZ cQ aMm qStm qSom s1 s2 s3 s4 fStm fSom fsaMm) H.size) [] := zNilD
  obtain ⟨hP, hD⟩ := va_join (wr := []) (w1 := []) hP hD [0, 1, 2] [] rfl rfl (by decide) (by decide) hk1 hFc hP1 hD1
  generalize H1 = H at hP hS ⊢
  have hP : va_P (dC, dI) vwCl [] H := hP
  have hD : va_D A [] := hD
  refine lv_icmp_eq (tgt := 888) hx hb dL_law_563 (by decide) (fun _ => ?_) (fun zc => absurd (hw6.trans hw12.symm) zc)
  refine lv_iinc (v := 6) (lv' := [(3, .int 6), (2, .ref aMm), (1, .ref aHh), (0, .ref b)]) hx hb dL_law_888 hl (k := 0) rfl (by decide) (by decide) rfl (fun ls hl => ?_)
  refine lv_goto (tgt := 18) hx hb dL_law_891 (by decide) ?_
  refine lv_iload_n hx hb dL_law_18 rfl (lv_at hl 0 rfl) ?_
  refine lv_aload_n hx hb dL_law_19 rfl (lv_at hl 3 rfl) ?_
  refine va_slen hx hb hX hbl hbA hS dL_law_20 ?_
  refine lv_topi (fun x13 ex13 => ?_)
  obtain rfl : x13 = 6 := ex13.trans (by decide)
  refine lv_bipush (v := 6) hx hb dL_law_21 (by decide) ?_
  refine lv_isub hx hb dL_law_23 ?_
  refine lv_topi (fun x14 ex14 => ?_)
  obtain rfl : x14 = 0 := ex14.trans (by decide)
  refine lv_icmp_gt (tgt := 894) hx hb dL_law_24 (by decide) (fun _ => ?_) (fun zc => absurd zc (by decide))
  refine lv_iconst (v := 1) hx hb dL_law_894 (by decide) ?_
  refine va_forget (fun q hq => by have := hS.2.2 q hq; rw [hAe] at this; exact this) ?_
  refine W.widen (k := 600000) (n := 7302250) (Nat.le_of_ble_eq_true rfl) (Nat.le_of_ble_eq_true rfl) ?_
  exact lw_ret hx hb hr hlocks dL_law_895

set_option maxHeartbeats 4000000 in
set_option maxRecDepth 100000 in
theorem lc_broken {p : Program} {e : Env} {s : State} {m : MethodId} {below : List Frame} {meth : Method} {c : Code} (l : Launch) {b : Nat} {xs : Nat → Int32} (C0 : lw_At p s m meth c b 6 xs) (dC : Nat → ClassId) (dI : Nat → Nat → Nat) (cB cI cJ cZ cQ : ClassId) (hK : va_K (dC, dI) vwCl (zTY cB cI cJ cZ cQ) s) (hO : zAO s) (A : Nat → Prop) (hAe : A = fun q : Nat => s.heap.size ≤ q) (aHh aSh aMm : Nat) (fsaHh : List Value) (fsaSh : List Value) (fsaMm : List Value) (hlaHh : fsaHh.length = 13) (haH_4h : fsaHh[4]? = some (.ref aSh)) (hlaSh : fsaSh.length = 3) (haS_2h : fsaSh[2]? = some (.int 0)) (hlaMm : fsaMm.length = 87) (haM_49m : fsaMm[49]? = some (.int 0)) (s1 s2 s3 s4 s5 : Int32) (es1 : xs (1 : Int32).toNatClampNeg = s1) (es2 : xs (2 : Int32).toNatClampNeg = s2) (es3 : xs (3 : Int32).toNatClampNeg = s3) (es4 : xs (4 : Int32).toNatClampNeg = s4) (es5 : xs (5 : Int32).toNatClampNeg = s5) (H : Heap) (locs : List Loc) (ls : Array Slot) (hP : va_P (dC, dI) vwCl [(aHh, .inr (11, fsaHh)), (aSh, .inr (8, fsaSh)), (aMm, .inr (12, fsaMm))] H) (hD : va_D A [(aHh, .inr (11, fsaHh)), (aSh, .inr (8, fsaSh)), (aMm, .inr (12, fsaMm))]) (hS : va_S A s.heap H locs) (hl : lv_has ls 4 [(3, .int 0), (2, .ref aMm), (1, .ref aHh), (0, .ref b)]) : W p l e room_1 s m #[Value.ref b] below meth c H locs 139 25402 (lw_Z below #[Value.ref b] s) (F0 m 568 ls []) := by
  obtain ⟨hx, hb, hr, hml, hown0, hts0, hX, hbl, hlocks, hgv⟩ := C0
  have hts := hts0
  have hown : s.vm.findClass RL = some m.cls := hown0
  have hA : ∀ q : Nat, s.heap.size ≤ q → A q := fun q h => by rw [hAe]; exact h
  have hbA : ¬ A b := by rw [hAe]; exact Nat.not_le.mpr hbl
  refine lv_aload_n hx hb dL_law_568 rfl (lv_at hl 2 rfl) ?_
  refine lv_aload_n hx hb dL_law_569 rfl (lv_at hl 3 rfl) ?_
  refine lv_iload_n hx hb dL_law_570 rfl (lv_at hl 0 rfl) ?_
  refine lv_iconst (v := 1) hx hb dL_law_571 (by decide) ?_
  refine lv_iadd hx hb dL_law_572 ?_
  refine lv_topi (fun x1 ex1 => ?_)
  obtain rfl : x1 = 1 := ex1.trans (by decide)
  refine z_sld hx hb hX hbl hbA hS (show ¬ ((1 : Int32) < 0 ∨ 6 ≤ (1 : Int32).toNatClampNeg) from by decide) (v := s1) es1 dL_law_573 ?_
  refine lv_aload_n hx hb dL_law_574 rfl (lv_at hl 3 rfl) ?_
  refine lv_iload_n hx hb dL_law_575 rfl (lv_at hl 0 rfl) ?_
  refine lv_iconst (v := 2) hx hb dL_law_576 (by decide) ?_
  refine lv_iadd hx hb dL_law_577 ?_
  refine lv_topi (fun x2 ex2 => ?_)
  obtain rfl : x2 = 2 := ex2.trans (by decide)
  refine z_sld hx hb hX hbl hbA hS (show ¬ ((2 : Int32) < 0 ∨ 6 ≤ (2 : Int32).toNatClampNeg) from by decide) (v := s2) es2 dL_law_578 ?_
  refine lv_aload_n hx hb dL_law_579 rfl (lv_at hl 3 rfl) ?_
  refine lv_iload_n hx hb dL_law_580 rfl (lv_at hl 0 rfl) ?_
  refine lv_iconst (v := 3) hx hb dL_law_581 (by decide) ?_
  refine lv_iadd hx hb dL_law_582 ?_
  refine lv_topi (fun x3 ex3 => ?_)
  obtain rfl : x3 = 3 := ex3.trans (by decide)
  refine z_sld hx hb hX hbl hbA hS (show ¬ ((3 : Int32) < 0 ∨ 6 ≤ (3 : Int32).toNatClampNeg) from by decide) (v := s3) es3 dL_law_583 ?_
  have hPc : va_P (dC, dI) vwCl (ws_h_broken cB cI cJ cZ cQ aHh aSh s1 s2 s3 fsaHh fsaSh) H := hP.sub [0, 1] rfl
  have hDc := hD.sub (ws' := (ws_h_broken cB cI cJ cZ cQ aHh aSh s1 s2 s3 fsaHh fsaSh)) [0, 1] (by decide) rfl
  have hFc := va_free (wc := (ws_h_broken cB cI cJ cZ cQ aHh aSh s1 s2 s3 fsaHh fsaSh)) hD hS hA [0, 1] rfl
  refine va_calli (va_runV (As := [.int s1, .int s2, .int s3]) (rest := []) ⟨hx, hb, hml, hown, hts⟩ (h_broken l dC dI cB cI cJ cZ cQ aHh aSh s1 s2 s3 fsaHh fsaSh H.size hlaHh haH_4h hlaSh haS_2h) (cwV 3 hts gL_h_broken rfl rfl rfl (by decide +kernel) ⟨Nat.le_of_ble_eq_true rfl, Nat.le_of_ble_eq_true rfl⟩) ⟨zFB, va_recv hK hP (ci := 11) (q0 := 0) rfl rfl, fun U hU hW => zUp hU hW hPc hK hO hDc⟩ rfl rfl hl.1 rfl (lv_room (Nat.le_of_ble_eq_true rfl)) dL_law_584 ⟨Nat.le_of_ble_eq_true rfl, Nat.le_of_ble_eq_true rfl⟩) hS (fun q _ h => hFc q h) hFc (fun r4 u t H1 locs ht hvm hw5 hB hz1 hk1 hS => ?_)
  have hP1 : va_P (dC, dI) vwCl [] H1 := zNilP
  have hD1 : va_D (va_A (ws_h_broken cB cI cJ cZ cQ aHh aSh s1 s2 s3 fsaHh fsaSh) H.size) [] := zNilD
  obtain ⟨hP, hD⟩ := va_join (wr := [(aMm, .inr (12, fsaMm))]) (w1 := []) hP hD [0, 1] [2] rfl rfl (by decide) (by decide) hk1 hFc hP1 hD1
  generalize H1 = H at hP hS ⊢
  have hP : va_P (dC, dI) vwCl [(aMm, .inr (12, fsaMm))] H := hP
  have hD : va_D A [(aMm, .inr (12, fsaMm))] := hD
  obtain rfl : r4 = (-1) := hw5
  refine lv_aload_n hx hb dL_law_587 rfl (lv_at hl 1 rfl) ?_
  refine lv_aload_n hx hb dL_law_588 rfl (lv_at hl 3 rfl) ?_
  refine lv_iload_n hx hb dL_law_589 rfl (lv_at hl 0 rfl) ?_
  refine lv_iconst (v := 1) hx hb dL_law_590 (by decide) ?_
  refine lv_iadd hx hb dL_law_591 ?_
  refine lv_topi (fun x6 ex6 => ?_)
  obtain rfl : x6 = 1 := ex6.trans (by decide)
  refine z_sld hx hb hX hbl hbA hS (show ¬ ((1 : Int32) < 0 ∨ 6 ≤ (1 : Int32).toNatClampNeg) from by decide) (v := s1) es1 dL_law_592 ?_
  refine lv_aload_n hx hb dL_law_593 rfl (lv_at hl 3 rfl) ?_
  refine lv_iload_n hx hb dL_law_594 rfl (lv_at hl 0 rfl) ?_
  refine lv_iconst (v := 2) hx hb dL_law_595 (by decide) ?_
  refine lv_iadd hx hb dL_law_596 ?_
  refine lv_topi (fun x7 ex7 => ?_)
  obtain rfl : x7 = 2 := ex7.trans (by decide)
  refine z_sld hx hb hX hbl hbA hS (show ¬ ((2 : Int32) < 0 ∨ 6 ≤ (2 : Int32).toNatClampNeg) from by decide) (v := s2) es2 dL_law_597 ?_
  refine lv_aload_n hx hb dL_law_598 rfl (lv_at hl 3 rfl) ?_
  refine lv_iload_n hx hb dL_law_599 rfl (lv_at hl 0 rfl) ?_
  refine lv_iconst (v := 3) hx hb dL_law_600 (by decide) ?_
  refine lv_iadd hx hb dL_law_601 ?_
  refine lv_topi (fun x8 ex8 => ?_)
  obtain rfl : x8 = 3 := ex8.trans (by decide)
  refine z_sld hx hb hX hbl hbA hS (show ¬ ((3 : Int32) < 0 ∨ 6 ≤ (3 : Int32).toNatClampNeg) from by decide) (v := s3) es3 dL_law_602 ?_
  have hPc : va_P (dC, dI) vwCl (ws_m_broken cB cI cJ cZ cQ aMm s1 s2 s3 fsaMm) H := hP.sub [0] rfl
  have hDc := hD.sub (ws' := (ws_m_broken cB cI cJ cZ cQ aMm s1 s2 s3 fsaMm)) [0] (by decide) rfl
  have hFc := va_free (wc := (ws_m_broken cB cI cJ cZ cQ aMm s1 s2 s3 fsaMm)) hD hS hA [0] rfl
  refine va_calli (va_runV (As := [.int s1, .int s2, .int s3]) (rest := [.int (-1)]) ⟨hx, hb, hml, hown, hts⟩ (m_broken l dC dI cB cI cJ cZ cQ aMm s1 s2 s3 fsaMm H.size hlaMm haM_49m) (cwV 3 hts gL_m_broken rfl rfl rfl (by decide +kernel) ⟨Nat.le_of_ble_eq_true rfl, Nat.le_of_ble_eq_true rfl⟩) ⟨zFB, va_recv hK hP (ci := 12) (q0 := 0) rfl rfl, fun U hU hW => zUp hU hW hPc hK hO hDc⟩ rfl rfl hl.1 rfl (lv_room (Nat.le_of_ble_eq_true rfl)) dL_law_603 ⟨Nat.le_of_ble_eq_true rfl, Nat.le_of_ble_eq_true rfl⟩) hS (fun q _ h => hFc q h) hFc (fun r9 u t H1 locs ht hvm hw10 hB hz1 hk1 hS => ?_)
  have hP1 : va_P (dC, dI) vwCl [] H1 := zNilP
  have hD1 : va_D (va_A (ws_m_broken cB cI cJ cZ cQ aMm s1 s2 s3 fsaMm) H.size) [] := zNilD
  obtain ⟨hP, hD⟩ := va_join (wr := []) (w1 := []) hP hD [0] [] rfl rfl (by decide) (by decide) hk1 hFc hP1 hD1
  generalize H1 = H at hP hS ⊢
  have hP : va_P (dC, dI) vwCl [] H := hP
  have hD : va_D A [] := hD
  obtain rfl : r9 = (-1) := hw10
  refine lv_icmp_eq (tgt := 888) hx hb dL_law_606 (by decide) (fun _ => ?_) (fun zc => absurd zc (by decide))
  refine lv_iinc (v := 6) (lv' := [(3, .int 6), (2, .ref aMm), (1, .ref aHh), (0, .ref b)]) hx hb dL_law_888 hl (k := 0) rfl (by decide) (by decide) rfl (fun ls hl => ?_)
  refine lv_goto (tgt := 18) hx hb dL_law_891 (by decide) ?_
  refine lv_iload_n hx hb dL_law_18 rfl (lv_at hl 0 rfl) ?_
  refine lv_aload_n hx hb dL_law_19 rfl (lv_at hl 3 rfl) ?_
  refine va_slen hx hb hX hbl hbA hS dL_law_20 ?_
  refine lv_topi (fun x11 ex11 => ?_)
  obtain rfl : x11 = 6 := ex11.trans (by decide)
  refine lv_bipush (v := 6) hx hb dL_law_21 (by decide) ?_
  refine lv_isub hx hb dL_law_23 ?_
  refine lv_topi (fun x12 ex12 => ?_)
  obtain rfl : x12 = 0 := ex12.trans (by decide)
  refine lv_icmp_gt (tgt := 894) hx hb dL_law_24 (by decide) (fun _ => ?_) (fun zc => absurd zc (by decide))
  refine lv_iconst (v := 1) hx hb dL_law_894 (by decide) ?_
  refine va_forget (fun q hq => by have := hS.2.2 q hq; rw [hAe] at this; exact this) ?_
  refine W.widen (k := 600000) (n := 7302250) (Nat.le_of_ble_eq_true rfl) (Nat.le_of_ble_eq_true rfl) ?_
  exact lw_ret hx hb hr hlocks dL_law_895

set_option maxHeartbeats 4000000 in
set_option maxRecDepth 100000 in
theorem lc_can {p : Program} {e : Env} {s : State} {m : MethodId} {below : List Frame} {meth : Method} {c : Code} (l : Launch) {b : Nat} {xs : Nat → Int32} (C0 : lw_At p s m meth c b 6 xs) (dC : Nat → ClassId) (dI : Nat → Nat → Nat) (cB cI cJ cZ cQ : ClassId) (hK : va_K (dC, dI) vwCl (zTY cB cI cJ cZ cQ) s) (hO : zAO s) (A : Nat → Prop) (hAe : A = fun q : Nat => s.heap.size ≤ q) (aHh aFh aShh aKh aRah qIdh qAh q8h qFrh aPlh aMm qStm : Nat) (fIdh : Nat → Int64) (fQh : Nat → Option Nat) (f8h : Nat → Int32) (fFrh : Nat → Int32) (fStm : Nat → Int32) (fsaHh : List Value) (fsaFh : List Value) (fsaShh : List Value) (fsaKh : List Value) (fsaRah : List Value) (fsaPlh : List Value) (fsaMm : List Value) (hlaHh : fsaHh.length = 13) (haH_5h : fsaHh[5]? = some (.ref aFh)) (haH_6h : fsaHh[6]? = some (.ref aShh)) (haH_7h : fsaHh[7]? = some (.ref aKh)) (haH_11h : fsaHh[11]? = some (.ref aPlh)) (hlaFh : fsaFh.length = 5) (haF_4h : fsaFh[4]? = some (.int 0)) (hlaShh : fsaShh.length = 8) (haSh_6h : fsaShh[6]? = some (.int 0)) (hlaKh : fsaKh.length = 8) (haK_0h : fsaKh[0]? = some (.ref aShh)) (haK_2h : fsaKh[2]? = some (.ref aFh)) (haK_3h : fsaKh[3]? = some (.ref aRah)) (haK_4h : fsaKh[4]? = some (.ref qAh)) (haK_6h : fsaKh[6]? = some (.ref qFrh)) (hlaRah : fsaRah.length = 8) (haRa_4h : fsaRah[4]? = some (.ref qIdh)) (haRa_7h : fsaRah[7]? = some (.int 0)) (hQ8h : fQh (8 : Int32).toNatClampNeg = (some q8h)) (hlaPlh : fsaPlh.length = 8) (hlaMm : fsaMm.length = 87) (haM_49m : fsaMm[49]? = some (.int 0)) (haM_52m : fsaMm[52]? = some (.int 0)) (haM_56m : fsaMm[56]? = some (.int (-1))) (haM_57m : fsaMm[57]? = some (.ref qStm)) (haM_59m : fsaMm[59]? = some (.int 0)) (s1 s2 s3 s4 s5 : Int32) (es1 : xs (1 : Int32).toNatClampNeg = s1) (es2 : xs (2 : Int32).toNatClampNeg = s2) (es3 : xs (3 : Int32).toNatClampNeg = s3) (es4 : xs (4 : Int32).toNatClampNeg = s4) (es5 : xs (5 : Int32).toNatClampNeg = s5) (H : Heap) (locs : List Loc) (ls : Array Slot) (hP : va_P (dC, dI) vwCl [(aHh, .inr (11, fsaHh)), (aFh, .inr (0, fsaFh)), (aShh, .inr (7, fsaShh)), (aKh, .inr (1, fsaKh)), (aRah, .inr (4, fsaRah)), (qIdh, .inl (cJ, 16, .inr (.inl fIdh))), (qAh, .inl (cQ, 9, .inr (.inr (.inr (.inr fQh))))), (q8h, .inl (cI, 6, .inl f8h)), (qFrh, .inl (cI, 20, .inl fFrh)), (aPlh, .inr (3, fsaPlh)), (aMm, .inr (12, fsaMm)), (qStm, .inl (cZ, 656, .inl fStm))] H) (hD : va_D A [(aHh, .inr (11, fsaHh)), (aFh, .inr (0, fsaFh)), (aShh, .inr (7, fsaShh)), (aKh, .inr (1, fsaKh)), (aRah, .inr (4, fsaRah)), (qIdh, .inl (cJ, 16, .inr (.inl fIdh))), (qAh, .inl (cQ, 9, .inr (.inr (.inr (.inr fQh))))), (q8h, .inl (cI, 6, .inl f8h)), (qFrh, .inl (cI, 20, .inl fFrh)), (aPlh, .inr (3, fsaPlh)), (aMm, .inr (12, fsaMm)), (qStm, .inl (cZ, 656, .inl fStm))]) (hS : va_S A s.heap H locs) (hl : lv_has ls 4 [(3, .int 0), (2, .ref aMm), (1, .ref aHh), (0, .ref b)]) : W p l e room_1 s m #[Value.ref b] below meth c H locs 139 25402 (lw_Z below #[Value.ref b] s) (F0 m 611 ls []) := by
  obtain ⟨hx, hb, hr, hml, hown0, hts0, hX, hbl, hlocks, hgv⟩ := C0
  have hts := hts0
  have hown : s.vm.findClass RL = some m.cls := hown0
  have hA : ∀ q : Nat, s.heap.size ≤ q → A q := fun q h => by rw [hAe]; exact h
  have hbA : ¬ A b := by rw [hAe]; exact Nat.not_le.mpr hbl
  refine lv_aload_n hx hb dL_law_611 rfl (lv_at hl 2 rfl) ?_
  refine lv_aload_n hx hb dL_law_612 rfl (lv_at hl 3 rfl) ?_
  refine lv_iload_n hx hb dL_law_613 rfl (lv_at hl 0 rfl) ?_
  refine lv_iconst (v := 1) hx hb dL_law_614 (by decide) ?_
  refine lv_iadd hx hb dL_law_615 ?_
  refine lv_topi (fun x1 ex1 => ?_)
  obtain rfl : x1 = 1 := ex1.trans (by decide)
  refine z_sld hx hb hX hbl hbA hS (show ¬ ((1 : Int32) < 0 ∨ 6 ≤ (1 : Int32).toNatClampNeg) from by decide) (v := s1) es1 dL_law_616 ?_
  refine lv_aload_n hx hb dL_law_617 rfl (lv_at hl 3 rfl) ?_
  refine lv_iload_n hx hb dL_law_618 rfl (lv_at hl 0 rfl) ?_
  refine lv_iconst (v := 2) hx hb dL_law_619 (by decide) ?_
  refine lv_iadd hx hb dL_law_620 ?_
  refine lv_topi (fun x2 ex2 => ?_)
  obtain rfl : x2 = 2 := ex2.trans (by decide)
  refine z_sld hx hb hX hbl hbA hS (show ¬ ((2 : Int32) < 0 ∨ 6 ≤ (2 : Int32).toNatClampNeg) from by decide) (v := s2) es2 dL_law_621 ?_
  have hPc : va_P (dC, dI) vwCl (ws_h_can cB cI cJ cZ cQ aHh aFh aShh aKh aRah qIdh qAh q8h qFrh aPlh s1 s2 fIdh fQh f8h fFrh fsaHh fsaFh fsaShh fsaKh fsaRah fsaPlh) H := hP.sub [0, 1, 2, 3, 4, 5, 6, 7, 8, 9] rfl
  have hDc := hD.sub (ws' := (ws_h_can cB cI cJ cZ cQ aHh aFh aShh aKh aRah qIdh qAh q8h qFrh aPlh s1 s2 fIdh fQh f8h fFrh fsaHh fsaFh fsaShh fsaKh fsaRah fsaPlh)) [0, 1, 2, 3, 4, 5, 6, 7, 8, 9] (by decide) rfl
  have hFc := va_free (wc := (ws_h_can cB cI cJ cZ cQ aHh aFh aShh aKh aRah qIdh qAh q8h qFrh aPlh s1 s2 fIdh fQh f8h fFrh fsaHh fsaFh fsaShh fsaKh fsaRah fsaPlh)) hD hS hA [0, 1, 2, 3, 4, 5, 6, 7, 8, 9] rfl
  refine va_calli (va_runV (As := [.int s1, .int s2]) (rest := []) ⟨hx, hb, hml, hown, hts⟩ (h_can l dC dI cB cI cJ cZ cQ aHh aFh aShh aKh aRah qIdh qAh q8h qFrh aPlh s1 s2 fIdh fQh f8h fFrh fsaHh fsaFh fsaShh fsaKh fsaRah fsaPlh H.size hQ8h hlaHh haH_5h haH_6h haH_7h haH_11h hlaFh haF_4h hlaShh haSh_6h hlaKh haK_0h haK_2h haK_3h haK_4h haK_6h hlaRah haRa_4h haRa_7h hlaPlh) (cwV 2 hts gL_h_can rfl rfl rfl (by decide +kernel) ⟨Nat.le_of_ble_eq_true rfl, Nat.le_of_ble_eq_true rfl⟩) ⟨zFB, va_recv hK hP (ci := 11) (q0 := 0) rfl rfl, fun U hU hW => zUp hU hW hPc hK hO hDc⟩ rfl rfl hl.1 rfl (lv_room (Nat.le_of_ble_eq_true rfl)) dL_law_622 ⟨Nat.le_of_ble_eq_true rfl, Nat.le_of_ble_eq_true rfl⟩) hS (fun q _ h => hFc q h) hFc (fun r3 u t H1 locs ht hvm hw4 hB hz1 hk1 hS => ?_)
  have hP1 : va_P (dC, dI) vwCl [] H1 := zNilP
  have hD1 : va_D (va_A (ws_h_can cB cI cJ cZ cQ aHh aFh aShh aKh aRah qIdh qAh q8h qFrh aPlh s1 s2 fIdh fQh f8h fFrh fsaHh fsaFh fsaShh fsaKh fsaRah fsaPlh) H.size) [] := zNilD
  obtain ⟨hP, hD⟩ := va_join (wr := [(aMm, .inr (12, fsaMm)), (qStm, .inl (cZ, 656, .inl fStm))]) (w1 := []) hP hD [0, 1, 2, 3, 4, 5, 6, 7, 8, 9] [10, 11] rfl rfl (by decide) (by decide) hk1 hFc hP1 hD1
  generalize H1 = H at hP hS ⊢
  have hP : va_P (dC, dI) vwCl [(aMm, .inr (12, fsaMm)), (qStm, .inl (cZ, 656, .inl fStm))] H := hP
  have hD : va_D A [(aMm, .inr (12, fsaMm)), (qStm, .inl (cZ, 656, .inl fStm))] := hD
  refine lv_aload_n hx hb dL_law_625 rfl (lv_at hl 1 rfl) ?_
  refine lv_aload_n hx hb dL_law_626 rfl (lv_at hl 3 rfl) ?_
  refine lv_iload_n hx hb dL_law_627 rfl (lv_at hl 0 rfl) ?_
  refine lv_iconst (v := 1) hx hb dL_law_628 (by decide) ?_
  refine lv_iadd hx hb dL_law_629 ?_
  refine lv_topi (fun x5 ex5 => ?_)
  obtain rfl : x5 = 1 := ex5.trans (by decide)
  refine z_sld hx hb hX hbl hbA hS (show ¬ ((1 : Int32) < 0 ∨ 6 ≤ (1 : Int32).toNatClampNeg) from by decide) (v := s1) es1 dL_law_630 ?_
  refine lv_aload_n hx hb dL_law_631 rfl (lv_at hl 3 rfl) ?_
  refine lv_iload_n hx hb dL_law_632 rfl (lv_at hl 0 rfl) ?_
  refine lv_iconst (v := 2) hx hb dL_law_633 (by decide) ?_
  refine lv_iadd hx hb dL_law_634 ?_
  refine lv_topi (fun x6 ex6 => ?_)
  obtain rfl : x6 = 2 := ex6.trans (by decide)
  refine z_sld hx hb hX hbl hbA hS (show ¬ ((2 : Int32) < 0 ∨ 6 ≤ (2 : Int32).toNatClampNeg) from by decide) (v := s2) es2 dL_law_635 ?_
  have hPc : va_P (dC, dI) vwCl (ws_m_can cB cI cJ cZ cQ aMm qStm s1 s2 fStm fsaMm) H := hP.sub [0, 1] rfl
  have hDc := hD.sub (ws' := (ws_m_can cB cI cJ cZ cQ aMm qStm s1 s2 fStm fsaMm)) [0, 1] (by decide) rfl
  have hFc := va_free (wc := (ws_m_can cB cI cJ cZ cQ aMm qStm s1 s2 fStm fsaMm)) hD hS hA [0, 1] rfl
  refine va_calli (va_runV (As := [.int s1, .int s2]) (rest := [.int r3]) ⟨hx, hb, hml, hown, hts⟩ (m_can l dC dI cB cI cJ cZ cQ aMm qStm s1 s2 fStm fsaMm H.size hlaMm haM_49m haM_52m haM_56m haM_57m haM_59m) (cwV 2 hts gL_m_can rfl rfl rfl (by decide +kernel) ⟨Nat.le_of_ble_eq_true rfl, Nat.le_of_ble_eq_true rfl⟩) ⟨zFB, va_recv hK hP (ci := 12) (q0 := 0) rfl rfl, fun U hU hW => zUp hU hW hPc hK hO hDc⟩ rfl rfl hl.1 rfl (lv_room (Nat.le_of_ble_eq_true rfl)) dL_law_636 ⟨Nat.le_of_ble_eq_true rfl, Nat.le_of_ble_eq_true rfl⟩) hS (fun q _ h => hFc q h) hFc (fun r7 u t H1 locs ht hvm hw8 hB hz1 hk1 hS => ?_)
  have hP1 : va_P (dC, dI) vwCl [] H1 := zNilP
  have hD1 : va_D (va_A (ws_m_can cB cI cJ cZ cQ aMm qStm s1 s2 fStm fsaMm) H.size) [] := zNilD
  obtain ⟨hP, hD⟩ := va_join (wr := []) (w1 := []) hP hD [0, 1] [] rfl rfl (by decide) (by decide) hk1 hFc hP1 hD1
  generalize H1 = H at hP hS ⊢
  have hP : va_P (dC, dI) vwCl [] H := hP
  have hD : va_D A [] := hD
  refine lv_icmp_eq (tgt := 888) hx hb dL_law_639 (by decide) (fun _ => ?_) (fun zc => absurd (hw4.trans hw8.symm) zc)
  refine lv_iinc (v := 6) (lv' := [(3, .int 6), (2, .ref aMm), (1, .ref aHh), (0, .ref b)]) hx hb dL_law_888 hl (k := 0) rfl (by decide) (by decide) rfl (fun ls hl => ?_)
  refine lv_goto (tgt := 18) hx hb dL_law_891 (by decide) ?_
  refine lv_iload_n hx hb dL_law_18 rfl (lv_at hl 0 rfl) ?_
  refine lv_aload_n hx hb dL_law_19 rfl (lv_at hl 3 rfl) ?_
  refine va_slen hx hb hX hbl hbA hS dL_law_20 ?_
  refine lv_topi (fun x9 ex9 => ?_)
  obtain rfl : x9 = 6 := ex9.trans (by decide)
  refine lv_bipush (v := 6) hx hb dL_law_21 (by decide) ?_
  refine lv_isub hx hb dL_law_23 ?_
  refine lv_topi (fun x10 ex10 => ?_)
  obtain rfl : x10 = 0 := ex10.trans (by decide)
  refine lv_icmp_gt (tgt := 894) hx hb dL_law_24 (by decide) (fun _ => ?_) (fun zc => absurd zc (by decide))
  refine lv_iconst (v := 1) hx hb dL_law_894 (by decide) ?_
  refine va_forget (fun q hq => by have := hS.2.2 q hq; rw [hAe] at this; exact this) ?_
  refine W.widen (k := 600000) (n := 7302250) (Nat.le_of_ble_eq_true rfl) (Nat.le_of_ble_eq_true rfl) ?_
  exact lw_ret hx hb hr hlocks dL_law_895

set_option maxHeartbeats 4000000 in
set_option maxRecDepth 100000 in
theorem lc_make {p : Program} {e : Env} {s : State} {m : MethodId} {below : List Frame} {meth : Method} {c : Code} (l : Launch) {b : Nat} {xs : Nat → Int32} (C0 : lw_At p s m meth c b 6 xs) (dC : Nat → ClassId) (dI : Nat → Nat → Nat) (cB cI cJ cZ cQ : ClassId) (hK : va_K (dC, dI) vwCl (zTY cB cI cJ cZ cQ) s) (hO : zAO s) (A : Nat → Prop) (hAe : A = fun q : Nat => s.heap.size ≤ q) (aHh aFh aShh aKh aRah qIdh qAh q8h qFrh aPlh aMm qStm qgetsm qgetsAsm qgetsFromm qgetsAtm qmadeGetsm qmadeAsm qmadeFromm qmadeAtm : Nat) (fIdh : Nat → Int64) (fQh : Nat → Option Nat) (f8h : Nat → Int32) (fFrh : Nat → Int32) (fStm : Nat → Int32) (fgetsm : Nat → Int32) (fgetsAsm : Nat → Int32) (fgetsFromm : Nat → Int32) (fgetsAtm : Nat → Int32) (fmadeGetsm : Nat → Int32) (fmadeAsm : Nat → Int32) (fmadeFromm : Nat → Int32) (fmadeAtm : Nat → Int32) (fsaHh : List Value) (fsaFh : List Value) (fsaShh : List Value) (fsaKh : List Value) (fsaRah : List Value) (fsaPlh : List Value) (fsaMm : List Value) (hlaHh : fsaHh.length = 13) (haH_5h : fsaHh[5]? = some (.ref aFh)) (haH_6h : fsaHh[6]? = some (.ref aShh)) (haH_7h : fsaHh[7]? = some (.ref aKh)) (haH_10h : fsaHh[10]? = some (.ref aPlh)) (hlaFh : fsaFh.length = 5) (haF_4h : fsaFh[4]? = some (.int 0)) (hlaShh : fsaShh.length = 8) (haSh_6h : fsaShh[6]? = some (.int 0)) (hlaKh : fsaKh.length = 8) (haK_0h : fsaKh[0]? = some (.ref aShh)) (haK_2h : fsaKh[2]? = some (.ref aFh)) (haK_3h : fsaKh[3]? = some (.ref aRah)) (haK_4h : fsaKh[4]? = some (.ref qAh)) (haK_6h : fsaKh[6]? = some (.ref qFrh)) (hlaRah : fsaRah.length = 8) (haRa_4h : fsaRah[4]? = some (.ref qIdh)) (haRa_7h : fsaRah[7]? = some (.int 0)) (hQ8h : fQh (8 : Int32).toNatClampNeg = (some q8h)) (hlaPlh : fsaPlh.length = 8) (hlaMm : fsaMm.length = 87) (haM_49m : fsaMm[49]? = some (.int 0)) (haM_52m : fsaMm[52]? = some (.int 0)) (haM_56m : fsaMm[56]? = some (.int (-1))) (haM_57m : fsaMm[57]? = some (.ref qStm)) (haM_59m : fsaMm[59]? = some (.int 0)) (haM_65m : fsaMm[65]? = some (.ref qgetsm)) (haM_66m : fsaMm[66]? = some (.ref qgetsAsm)) (haM_67m : fsaMm[67]? = some (.ref qgetsFromm)) (haM_68m : fsaMm[68]? = some (.ref qgetsAtm)) (haM_78m : fsaMm[78]? = some (.ref qmadeGetsm)) (haM_79m : fsaMm[79]? = some (.ref qmadeAsm)) (haM_80m : fsaMm[80]? = some (.ref qmadeFromm)) (haM_81m : fsaMm[81]? = some (.ref qmadeAtm)) (s1 s2 s3 s4 s5 : Int32) (es1 : xs (1 : Int32).toNatClampNeg = s1) (es2 : xs (2 : Int32).toNatClampNeg = s2) (es3 : xs (3 : Int32).toNatClampNeg = s3) (es4 : xs (4 : Int32).toNatClampNeg = s4) (es5 : xs (5 : Int32).toNatClampNeg = s5) (H : Heap) (locs : List Loc) (ls : Array Slot) (hP : va_P (dC, dI) vwCl [(aHh, .inr (11, fsaHh)), (aFh, .inr (0, fsaFh)), (aShh, .inr (7, fsaShh)), (aKh, .inr (1, fsaKh)), (aRah, .inr (4, fsaRah)), (qIdh, .inl (cJ, 16, .inr (.inl fIdh))), (qAh, .inl (cQ, 9, .inr (.inr (.inr (.inr fQh))))), (q8h, .inl (cI, 6, .inl f8h)), (qFrh, .inl (cI, 20, .inl fFrh)), (aPlh, .inr (3, fsaPlh)), (aMm, .inr (12, fsaMm)), (qStm, .inl (cZ, 656, .inl fStm)), (qgetsm, .inl (cI, 64, .inl fgetsm)), (qgetsAsm, .inl (cI, 64, .inl fgetsAsm)), (qgetsFromm, .inl (cI, 64, .inl fgetsFromm)), (qgetsAtm, .inl (cI, 64, .inl fgetsAtm)), (qmadeGetsm, .inl (cI, 64, .inl fmadeGetsm)), (qmadeAsm, .inl (cI, 64, .inl fmadeAsm)), (qmadeFromm, .inl (cI, 64, .inl fmadeFromm)), (qmadeAtm, .inl (cI, 64, .inl fmadeAtm))] H) (hD : va_D A [(aHh, .inr (11, fsaHh)), (aFh, .inr (0, fsaFh)), (aShh, .inr (7, fsaShh)), (aKh, .inr (1, fsaKh)), (aRah, .inr (4, fsaRah)), (qIdh, .inl (cJ, 16, .inr (.inl fIdh))), (qAh, .inl (cQ, 9, .inr (.inr (.inr (.inr fQh))))), (q8h, .inl (cI, 6, .inl f8h)), (qFrh, .inl (cI, 20, .inl fFrh)), (aPlh, .inr (3, fsaPlh)), (aMm, .inr (12, fsaMm)), (qStm, .inl (cZ, 656, .inl fStm)), (qgetsm, .inl (cI, 64, .inl fgetsm)), (qgetsAsm, .inl (cI, 64, .inl fgetsAsm)), (qgetsFromm, .inl (cI, 64, .inl fgetsFromm)), (qgetsAtm, .inl (cI, 64, .inl fgetsAtm)), (qmadeGetsm, .inl (cI, 64, .inl fmadeGetsm)), (qmadeAsm, .inl (cI, 64, .inl fmadeAsm)), (qmadeFromm, .inl (cI, 64, .inl fmadeFromm)), (qmadeAtm, .inl (cI, 64, .inl fmadeAtm))]) (hS : va_S A s.heap H locs) (hl : lv_has ls 4 [(3, .int 0), (2, .ref aMm), (1, .ref aHh), (0, .ref b)]) : W p l e room_1 s m #[Value.ref b] below meth c H locs 139 25402 (lw_Z below #[Value.ref b] s) (F0 m 644 ls []) := by
  obtain ⟨hx, hb, hr, hml, hown0, hts0, hX, hbl, hlocks, hgv⟩ := C0
  have hts := hts0
  have hown : s.vm.findClass RL = some m.cls := hown0
  have hA : ∀ q : Nat, s.heap.size ≤ q → A q := fun q h => by rw [hAe]; exact h
  have hbA : ¬ A b := by rw [hAe]; exact Nat.not_le.mpr hbl
  refine lv_aload_n hx hb dL_law_644 rfl (lv_at hl 2 rfl) ?_
  refine lv_aload_n hx hb dL_law_645 rfl (lv_at hl 3 rfl) ?_
  refine lv_iload_n hx hb dL_law_646 rfl (lv_at hl 0 rfl) ?_
  refine lv_iconst (v := 1) hx hb dL_law_647 (by decide) ?_
  refine lv_iadd hx hb dL_law_648 ?_
  refine lv_topi (fun x1 ex1 => ?_)
  obtain rfl : x1 = 1 := ex1.trans (by decide)
  refine z_sld hx hb hX hbl hbA hS (show ¬ ((1 : Int32) < 0 ∨ 6 ≤ (1 : Int32).toNatClampNeg) from by decide) (v := s1) es1 dL_law_649 ?_
  have hPc : va_P (dC, dI) vwCl (ws_h_make cB cI cJ cZ cQ aHh aFh aShh aKh aRah qIdh qAh q8h qFrh aPlh s1 fIdh fQh f8h fFrh fsaHh fsaFh fsaShh fsaKh fsaRah fsaPlh) H := hP.sub [0, 1, 2, 3, 4, 5, 6, 7, 8, 9] rfl
  have hDc := hD.sub (ws' := (ws_h_make cB cI cJ cZ cQ aHh aFh aShh aKh aRah qIdh qAh q8h qFrh aPlh s1 fIdh fQh f8h fFrh fsaHh fsaFh fsaShh fsaKh fsaRah fsaPlh)) [0, 1, 2, 3, 4, 5, 6, 7, 8, 9] (by decide) rfl
  have hFc := va_free (wc := (ws_h_make cB cI cJ cZ cQ aHh aFh aShh aKh aRah qIdh qAh q8h qFrh aPlh s1 fIdh fQh f8h fFrh fsaHh fsaFh fsaShh fsaKh fsaRah fsaPlh)) hD hS hA [0, 1, 2, 3, 4, 5, 6, 7, 8, 9] rfl
  refine va_calli (va_runV (As := [.int s1]) (rest := []) ⟨hx, hb, hml, hown, hts⟩ (h_make l dC dI cB cI cJ cZ cQ aHh aFh aShh aKh aRah qIdh qAh q8h qFrh aPlh s1 fIdh fQh f8h fFrh fsaHh fsaFh fsaShh fsaKh fsaRah fsaPlh H.size hQ8h hlaHh haH_5h haH_6h haH_7h haH_10h hlaFh haF_4h hlaShh haSh_6h hlaKh haK_0h haK_2h haK_3h haK_4h haK_6h hlaRah haRa_4h haRa_7h hlaPlh) (cwV 1 hts gL_h_make rfl rfl rfl (by decide +kernel) ⟨Nat.le_of_ble_eq_true rfl, Nat.le_of_ble_eq_true rfl⟩) ⟨zFB, va_recv hK hP (ci := 11) (q0 := 0) rfl rfl, fun U hU hW => zUp hU hW hPc hK hO hDc⟩ rfl rfl hl.1 rfl (lv_room (Nat.le_of_ble_eq_true rfl)) dL_law_650 ⟨Nat.le_of_ble_eq_true rfl, Nat.le_of_ble_eq_true rfl⟩) hS (fun q _ h => hFc q h) hFc (fun r2 u t H1 locs ht hvm hw3 hB hz1 hk1 hS => ?_)
  have hP1 : va_P (dC, dI) vwCl [] H1 := zNilP
  have hD1 : va_D (va_A (ws_h_make cB cI cJ cZ cQ aHh aFh aShh aKh aRah qIdh qAh q8h qFrh aPlh s1 fIdh fQh f8h fFrh fsaHh fsaFh fsaShh fsaKh fsaRah fsaPlh) H.size) [] := zNilD
  obtain ⟨hP, hD⟩ := va_join (wr := [(aMm, .inr (12, fsaMm)), (qStm, .inl (cZ, 656, .inl fStm)), (qgetsm, .inl (cI, 64, .inl fgetsm)), (qgetsAsm, .inl (cI, 64, .inl fgetsAsm)), (qgetsFromm, .inl (cI, 64, .inl fgetsFromm)), (qgetsAtm, .inl (cI, 64, .inl fgetsAtm)), (qmadeGetsm, .inl (cI, 64, .inl fmadeGetsm)), (qmadeAsm, .inl (cI, 64, .inl fmadeAsm)), (qmadeFromm, .inl (cI, 64, .inl fmadeFromm)), (qmadeAtm, .inl (cI, 64, .inl fmadeAtm))]) (w1 := []) hP hD [0, 1, 2, 3, 4, 5, 6, 7, 8, 9] [10, 11, 12, 13, 14, 15, 16, 17, 18, 19] rfl rfl (by decide) (by decide) hk1 hFc hP1 hD1
  generalize H1 = H at hP hS ⊢
  have hP : va_P (dC, dI) vwCl [(aMm, .inr (12, fsaMm)), (qStm, .inl (cZ, 656, .inl fStm)), (qgetsm, .inl (cI, 64, .inl fgetsm)), (qgetsAsm, .inl (cI, 64, .inl fgetsAsm)), (qgetsFromm, .inl (cI, 64, .inl fgetsFromm)), (qgetsAtm, .inl (cI, 64, .inl fgetsAtm)), (qmadeGetsm, .inl (cI, 64, .inl fmadeGetsm)), (qmadeAsm, .inl (cI, 64, .inl fmadeAsm)), (qmadeFromm, .inl (cI, 64, .inl fmadeFromm)), (qmadeAtm, .inl (cI, 64, .inl fmadeAtm))] H := hP
  have hD : va_D A [(aMm, .inr (12, fsaMm)), (qStm, .inl (cZ, 656, .inl fStm)), (qgetsm, .inl (cI, 64, .inl fgetsm)), (qgetsAsm, .inl (cI, 64, .inl fgetsAsm)), (qgetsFromm, .inl (cI, 64, .inl fgetsFromm)), (qgetsAtm, .inl (cI, 64, .inl fgetsAtm)), (qmadeGetsm, .inl (cI, 64, .inl fmadeGetsm)), (qmadeAsm, .inl (cI, 64, .inl fmadeAsm)), (qmadeFromm, .inl (cI, 64, .inl fmadeFromm)), (qmadeAtm, .inl (cI, 64, .inl fmadeAtm))] := hD
  refine lv_aload_n hx hb dL_law_653 rfl (lv_at hl 1 rfl) ?_
  refine lv_aload_n hx hb dL_law_654 rfl (lv_at hl 3 rfl) ?_
  refine lv_iload_n hx hb dL_law_655 rfl (lv_at hl 0 rfl) ?_
  refine lv_iconst (v := 1) hx hb dL_law_656 (by decide) ?_
  refine lv_iadd hx hb dL_law_657 ?_
  refine lv_topi (fun x4 ex4 => ?_)
  obtain rfl : x4 = 1 := ex4.trans (by decide)
  refine z_sld hx hb hX hbl hbA hS (show ¬ ((1 : Int32) < 0 ∨ 6 ≤ (1 : Int32).toNatClampNeg) from by decide) (v := s1) es1 dL_law_658 ?_
  have hPc : va_P (dC, dI) vwCl (ws_m_make cB cI cJ cZ cQ aMm qStm qgetsm qgetsAsm qgetsFromm qgetsAtm qmadeGetsm qmadeAsm qmadeFromm qmadeAtm s1 fStm fgetsm fgetsAsm fgetsFromm fgetsAtm fmadeGetsm fmadeAsm fmadeFromm fmadeAtm fsaMm) H := hP.sub [0, 1, 2, 3, 4, 5, 6, 7, 8, 9] rfl
  have hDc := hD.sub (ws' := (ws_m_make cB cI cJ cZ cQ aMm qStm qgetsm qgetsAsm qgetsFromm qgetsAtm qmadeGetsm qmadeAsm qmadeFromm qmadeAtm s1 fStm fgetsm fgetsAsm fgetsFromm fgetsAtm fmadeGetsm fmadeAsm fmadeFromm fmadeAtm fsaMm)) [0, 1, 2, 3, 4, 5, 6, 7, 8, 9] (by decide) rfl
  have hFc := va_free (wc := (ws_m_make cB cI cJ cZ cQ aMm qStm qgetsm qgetsAsm qgetsFromm qgetsAtm qmadeGetsm qmadeAsm qmadeFromm qmadeAtm s1 fStm fgetsm fgetsAsm fgetsFromm fgetsAtm fmadeGetsm fmadeAsm fmadeFromm fmadeAtm fsaMm)) hD hS hA [0, 1, 2, 3, 4, 5, 6, 7, 8, 9] rfl
  refine va_calli (va_runV (As := [.int s1]) (rest := [.int r2]) ⟨hx, hb, hml, hown, hts⟩ (m_make l dC dI cB cI cJ cZ cQ aMm qStm qgetsm qgetsAsm qgetsFromm qgetsAtm qmadeGetsm qmadeAsm qmadeFromm qmadeAtm s1 fStm fgetsm fgetsAsm fgetsFromm fgetsAtm fmadeGetsm fmadeAsm fmadeFromm fmadeAtm fsaMm H.size hlaMm haM_49m haM_52m haM_56m haM_57m haM_59m haM_65m haM_66m haM_67m haM_68m haM_78m haM_79m haM_80m haM_81m) (cwV 1 hts gL_m_make rfl rfl rfl (by decide +kernel) ⟨Nat.le_of_ble_eq_true rfl, Nat.le_of_ble_eq_true rfl⟩) ⟨zFB, va_recv hK hP (ci := 12) (q0 := 0) rfl rfl, fun U hU hW => zUp hU hW hPc hK hO hDc⟩ rfl rfl hl.1 rfl (lv_room (Nat.le_of_ble_eq_true rfl)) dL_law_659 ⟨Nat.le_of_ble_eq_true rfl, Nat.le_of_ble_eq_true rfl⟩) hS (fun q _ h => hFc q h) hFc (fun r5 u t H1 locs ht hvm hw6 hB hz1 hk1 hS => ?_)
  have hP1 : va_P (dC, dI) vwCl [] H1 := zNilP
  have hD1 : va_D (va_A (ws_m_make cB cI cJ cZ cQ aMm qStm qgetsm qgetsAsm qgetsFromm qgetsAtm qmadeGetsm qmadeAsm qmadeFromm qmadeAtm s1 fStm fgetsm fgetsAsm fgetsFromm fgetsAtm fmadeGetsm fmadeAsm fmadeFromm fmadeAtm fsaMm) H.size) [] := zNilD
  obtain ⟨hP, hD⟩ := va_join (wr := []) (w1 := []) hP hD [0, 1, 2, 3, 4, 5, 6, 7, 8, 9] [] rfl rfl (by decide) (by decide) hk1 hFc hP1 hD1
  generalize H1 = H at hP hS ⊢
  have hP : va_P (dC, dI) vwCl [] H := hP
  have hD : va_D A [] := hD
  refine lv_icmp_eq (tgt := 888) hx hb dL_law_662 (by decide) (fun _ => ?_) (fun zc => absurd (hw3.trans hw6.symm) zc)
  refine lv_iinc (v := 6) (lv' := [(3, .int 6), (2, .ref aMm), (1, .ref aHh), (0, .ref b)]) hx hb dL_law_888 hl (k := 0) rfl (by decide) (by decide) rfl (fun ls hl => ?_)
  refine lv_goto (tgt := 18) hx hb dL_law_891 (by decide) ?_
  refine lv_iload_n hx hb dL_law_18 rfl (lv_at hl 0 rfl) ?_
  refine lv_aload_n hx hb dL_law_19 rfl (lv_at hl 3 rfl) ?_
  refine va_slen hx hb hX hbl hbA hS dL_law_20 ?_
  refine lv_topi (fun x7 ex7 => ?_)
  obtain rfl : x7 = 6 := ex7.trans (by decide)
  refine lv_bipush (v := 6) hx hb dL_law_21 (by decide) ?_
  refine lv_isub hx hb dL_law_23 ?_
  refine lv_topi (fun x8 ex8 => ?_)
  obtain rfl : x8 = 0 := ex8.trans (by decide)
  refine lv_icmp_gt (tgt := 894) hx hb dL_law_24 (by decide) (fun _ => ?_) (fun zc => absurd zc (by decide))
  refine lv_iconst (v := 1) hx hb dL_law_894 (by decide) ?_
  refine va_forget (fun q hq => by have := hS.2.2 q hq; rw [hAe] at this; exact this) ?_
  refine W.widen (k := 600000) (n := 7302250) (Nat.le_of_ble_eq_true rfl) (Nat.le_of_ble_eq_true rfl) ?_
  exact lw_ret hx hb hr hlocks dL_law_895

set_option maxHeartbeats 4000000 in
set_option maxRecDepth 100000 in
theorem lc_mend {p : Program} {e : Env} {s : State} {m : MethodId} {below : List Frame} {meth : Method} {c : Code} (l : Launch) {b : Nat} {xs : Nat → Int32} (C0 : lw_At p s m meth c b 6 xs) (dC : Nat → ClassId) (dI : Nat → Nat → Nat) (cB cI cJ cZ cQ : ClassId) (hK : va_K (dC, dI) vwCl (zTY cB cI cJ cZ cQ) s) (hO : zAO s) (A : Nat → Prop) (hAe : A = fun q : Nat => s.heap.size ≤ q) (aHh aMm : Nat) (fsaHh : List Value) (fsaMm : List Value) (hlaHh : fsaHh.length = 13) (haH_12h : fsaHh[12]? = some (.int 0)) (hlaMm : fsaMm.length = 87) (haM_74m : fsaMm[74]? = some (.int 0)) (s1 s2 s3 s4 s5 : Int32) (es1 : xs (1 : Int32).toNatClampNeg = s1) (es2 : xs (2 : Int32).toNatClampNeg = s2) (es3 : xs (3 : Int32).toNatClampNeg = s3) (es4 : xs (4 : Int32).toNatClampNeg = s4) (es5 : xs (5 : Int32).toNatClampNeg = s5) (H : Heap) (locs : List Loc) (ls : Array Slot) (hP : va_P (dC, dI) vwCl [(aHh, .inr (11, fsaHh)), (aMm, .inr (12, fsaMm))] H) (hD : va_D A [(aHh, .inr (11, fsaHh)), (aMm, .inr (12, fsaMm))]) (hS : va_S A s.heap H locs) (hl : lv_has ls 4 [(3, .int 0), (2, .ref aMm), (1, .ref aHh), (0, .ref b)]) : W p l e room_1 s m #[Value.ref b] below meth c H locs 139 25402 (lw_Z below #[Value.ref b] s) (F0 m 667 ls []) := by
  obtain ⟨hx, hb, hr, hml, hown0, hts0, hX, hbl, hlocks, hgv⟩ := C0
  have hts := hts0
  have hown : s.vm.findClass RL = some m.cls := hown0
  have hA : ∀ q : Nat, s.heap.size ≤ q → A q := fun q h => by rw [hAe]; exact h
  have hbA : ¬ A b := by rw [hAe]; exact Nat.not_le.mpr hbl
  refine lv_aload_n hx hb dL_law_667 rfl (lv_at hl 2 rfl) ?_
  refine lv_aload_n hx hb dL_law_668 rfl (lv_at hl 3 rfl) ?_
  refine lv_iload_n hx hb dL_law_669 rfl (lv_at hl 0 rfl) ?_
  refine lv_iconst (v := 1) hx hb dL_law_670 (by decide) ?_
  refine lv_iadd hx hb dL_law_671 ?_
  refine lv_topi (fun x1 ex1 => ?_)
  obtain rfl : x1 = 1 := ex1.trans (by decide)
  refine z_sld hx hb hX hbl hbA hS (show ¬ ((1 : Int32) < 0 ∨ 6 ≤ (1 : Int32).toNatClampNeg) from by decide) (v := s1) es1 dL_law_672 ?_
  have hPc : va_P (dC, dI) vwCl (ws_h_mend cB cI cJ cZ cQ aHh s1 fsaHh) H := hP.sub [0] rfl
  have hDc := hD.sub (ws' := (ws_h_mend cB cI cJ cZ cQ aHh s1 fsaHh)) [0] (by decide) rfl
  have hFc := va_free (wc := (ws_h_mend cB cI cJ cZ cQ aHh s1 fsaHh)) hD hS hA [0] rfl
  refine va_calli (va_runV (As := [.int s1]) (rest := []) ⟨hx, hb, hml, hown, hts⟩ (h_mend l dC dI cB cI cJ cZ cQ aHh s1 fsaHh H.size hlaHh haH_12h) (cwV 1 hts gL_h_mend rfl rfl rfl (by decide +kernel) ⟨Nat.le_of_ble_eq_true rfl, Nat.le_of_ble_eq_true rfl⟩) ⟨zFB, va_recv hK hP (ci := 11) (q0 := 0) rfl rfl, fun U hU hW => zUp hU hW hPc hK hO hDc⟩ rfl rfl hl.1 rfl (lv_room (Nat.le_of_ble_eq_true rfl)) dL_law_673 ⟨Nat.le_of_ble_eq_true rfl, Nat.le_of_ble_eq_true rfl⟩) hS (fun q _ h => hFc q h) hFc (fun r2 u t H1 locs ht hvm hw3 hB hz1 hk1 hS => ?_)
  have hP1 : va_P (dC, dI) vwCl [] H1 := zNilP
  have hD1 : va_D (va_A (ws_h_mend cB cI cJ cZ cQ aHh s1 fsaHh) H.size) [] := zNilD
  obtain ⟨hP, hD⟩ := va_join (wr := [(aMm, .inr (12, fsaMm))]) (w1 := []) hP hD [0] [1] rfl rfl (by decide) (by decide) hk1 hFc hP1 hD1
  generalize H1 = H at hP hS ⊢
  have hP : va_P (dC, dI) vwCl [(aMm, .inr (12, fsaMm))] H := hP
  have hD : va_D A [(aMm, .inr (12, fsaMm))] := hD
  obtain rfl : r2 = (-1) := hw3
  refine lv_aload_n hx hb dL_law_676 rfl (lv_at hl 1 rfl) ?_
  refine lv_aload_n hx hb dL_law_677 rfl (lv_at hl 3 rfl) ?_
  refine lv_iload_n hx hb dL_law_678 rfl (lv_at hl 0 rfl) ?_
  refine lv_iconst (v := 1) hx hb dL_law_679 (by decide) ?_
  refine lv_iadd hx hb dL_law_680 ?_
  refine lv_topi (fun x4 ex4 => ?_)
  obtain rfl : x4 = 1 := ex4.trans (by decide)
  refine z_sld hx hb hX hbl hbA hS (show ¬ ((1 : Int32) < 0 ∨ 6 ≤ (1 : Int32).toNatClampNeg) from by decide) (v := s1) es1 dL_law_681 ?_
  have hPc : va_P (dC, dI) vwCl (ws_m_mend cB cI cJ cZ cQ aMm s1 fsaMm) H := hP.sub [0] rfl
  have hDc := hD.sub (ws' := (ws_m_mend cB cI cJ cZ cQ aMm s1 fsaMm)) [0] (by decide) rfl
  have hFc := va_free (wc := (ws_m_mend cB cI cJ cZ cQ aMm s1 fsaMm)) hD hS hA [0] rfl
  refine va_calli (va_runV (As := [.int s1]) (rest := [.int (-1)]) ⟨hx, hb, hml, hown, hts⟩ (m_mend l dC dI cB cI cJ cZ cQ aMm s1 fsaMm H.size hlaMm haM_74m) (cwV 1 hts gL_m_mend rfl rfl rfl (by decide +kernel) ⟨Nat.le_of_ble_eq_true rfl, Nat.le_of_ble_eq_true rfl⟩) ⟨zFB, va_recv hK hP (ci := 12) (q0 := 0) rfl rfl, fun U hU hW => zUp hU hW hPc hK hO hDc⟩ rfl rfl hl.1 rfl (lv_room (Nat.le_of_ble_eq_true rfl)) dL_law_682 ⟨Nat.le_of_ble_eq_true rfl, Nat.le_of_ble_eq_true rfl⟩) hS (fun q _ h => hFc q h) hFc (fun r5 u t H1 locs ht hvm hw6 hB hz1 hk1 hS => ?_)
  have hP1 : va_P (dC, dI) vwCl [] H1 := zNilP
  have hD1 : va_D (va_A (ws_m_mend cB cI cJ cZ cQ aMm s1 fsaMm) H.size) [] := zNilD
  obtain ⟨hP, hD⟩ := va_join (wr := []) (w1 := []) hP hD [0] [] rfl rfl (by decide) (by decide) hk1 hFc hP1 hD1
  generalize H1 = H at hP hS ⊢
  have hP : va_P (dC, dI) vwCl [] H := hP
  have hD : va_D A [] := hD
  obtain rfl : r5 = (-1) := hw6
  refine lv_icmp_eq (tgt := 888) hx hb dL_law_685 (by decide) (fun _ => ?_) (fun zc => absurd zc (by decide))
  refine lv_iinc (v := 6) (lv' := [(3, .int 6), (2, .ref aMm), (1, .ref aHh), (0, .ref b)]) hx hb dL_law_888 hl (k := 0) rfl (by decide) (by decide) rfl (fun ls hl => ?_)
  refine lv_goto (tgt := 18) hx hb dL_law_891 (by decide) ?_
  refine lv_iload_n hx hb dL_law_18 rfl (lv_at hl 0 rfl) ?_
  refine lv_aload_n hx hb dL_law_19 rfl (lv_at hl 3 rfl) ?_
  refine va_slen hx hb hX hbl hbA hS dL_law_20 ?_
  refine lv_topi (fun x7 ex7 => ?_)
  obtain rfl : x7 = 6 := ex7.trans (by decide)
  refine lv_bipush (v := 6) hx hb dL_law_21 (by decide) ?_
  refine lv_isub hx hb dL_law_23 ?_
  refine lv_topi (fun x8 ex8 => ?_)
  obtain rfl : x8 = 0 := ex8.trans (by decide)
  refine lv_icmp_gt (tgt := 894) hx hb dL_law_24 (by decide) (fun _ => ?_) (fun zc => absurd zc (by decide))
  refine lv_iconst (v := 1) hx hb dL_law_894 (by decide) ?_
  refine va_forget (fun q hq => by have := hS.2.2 q hq; rw [hAe] at this; exact this) ?_
  refine W.widen (k := 600000) (n := 7302250) (Nat.le_of_ble_eq_true rfl) (Nat.le_of_ble_eq_true rfl) ?_
  exact lw_ret hx hb hr hlocks dL_law_895
