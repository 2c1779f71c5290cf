set_option maxHeartbeats 4000000 in
set_option maxRecDepth 100000 in
theorem lc_told {p : Program} {e : Env} {s : State} {m : MethodId} {below : List Frame} {meth : Method} {c : Code} (l : Launch) {b : Nat} {xs : Nat → Int32} (C0 : lw_At p s m meth c b 6 xs) (dC : Nat → ClassId) (dI : Nat → Nat → Nat) (cB cI cJ cZ cQ : ClassId) (hK : va_K (dC, dI) vwCl (zTY cB cI cJ cZ cQ) s) (hO : zAO s) (A : Nat → Prop) (hAe : A = fun q : Nat => s.heap.size ≤ q) (aHh aShh aMm : Nat) (fsaHh : List Value) (fsaShh : List Value) (fsaMm : List Value) (hlaHh : fsaHh.length = 13) (haH_6h : fsaHh[6]? = some (.ref aShh)) (hlaShh : fsaShh.length = 8) (haSh_6h : fsaShh[6]? = some (.int 0)) (hlaMm : fsaMm.length = 87) (haM_59m : fsaMm[59]? = some (.int 0)) (s1 s2 s3 s4 s5 : Int32) (es1 : xs (1 : Int32).toNatClampNeg = s1) (es2 : xs (2 : Int32).toNatClampNeg = s2) (es3 : xs (3 : Int32).toNatClampNeg = s3) (es4 : xs (4 : Int32).toNatClampNeg = s4) (es5 : xs (5 : Int32).toNatClampNeg = s5) (H : Heap) (locs : List Loc) (ls : Array Slot) (hP : va_P (dC, dI) vwCl [(aHh, .inr (11, fsaHh)), (aShh, .inr (7, fsaShh)), (aMm, .inr (12, fsaMm))] H) (hD : va_D A [(aHh, .inr (11, fsaHh)), (aShh, .inr (7, fsaShh)), (aMm, .inr (12, fsaMm))]) (hS : va_S A s.heap H locs) (hl : lv_has ls 4 [(3, .int 0), (2, .ref aMm), (1, .ref aHh), (0, .ref b)]) : W p l e room_1 s m #[Value.ref b] below meth c H locs 139 25402 (lw_Z below #[Value.ref b] s) (F0 m 690 ls []) := by
  obtain ⟨hx, hb, hr, hml, hown0, hts0, hX, hbl, hlocks, hgv⟩ := C0
  have hts := hts0
  have hown : s.vm.findClass RL = some m.cls := hown0
  have hA : ∀ q : Nat, s.heap.size ≤ q → A q := fun q h => by rw [hAe]; exact h
  have hbA : ¬ A b := by rw [hAe]; exact Nat.not_le.mpr hbl
  refine lv_aload_n hx hb dL_law_690 rfl (lv_at hl 2 rfl) ?_
  refine lv_aload_n hx hb dL_law_691 rfl (lv_at hl 3 rfl) ?_
  refine lv_iload_n hx hb dL_law_692 rfl (lv_at hl 0 rfl) ?_
  refine lv_iconst (v := 1) hx hb dL_law_693 (by decide) ?_
  refine lv_iadd hx hb dL_law_694 ?_
  refine lv_topi (fun x1 ex1 => ?_)
  obtain rfl : x1 = 1 := ex1.trans (by decide)
  refine z_sld hx hb hX hbl hbA hS (show ¬ ((1 : Int32) < 0 ∨ 6 ≤ (1 : Int32).toNatClampNeg) from by decide) (v := s1) es1 dL_law_695 ?_
  refine lv_aload_n hx hb dL_law_696 rfl (lv_at hl 3 rfl) ?_
  refine lv_iload_n hx hb dL_law_697 rfl (lv_at hl 0 rfl) ?_
  refine lv_iconst (v := 2) hx hb dL_law_698 (by decide) ?_
  refine lv_iadd hx hb dL_law_699 ?_
  refine lv_topi (fun x2 ex2 => ?_)
  obtain rfl : x2 = 2 := ex2.trans (by decide)
  refine z_sld hx hb hX hbl hbA hS (show ¬ ((2 : Int32) < 0 ∨ 6 ≤ (2 : Int32).toNatClampNeg) from by decide) (v := s2) es2 dL_law_700 ?_
  have hPc : va_P (dC, dI) vwCl (ws_h_told cB cI cJ cZ cQ aHh aShh s1 s2 fsaHh fsaShh) H := hP.sub [0, 1] rfl
  have hDc := hD.sub (ws' := (ws_h_told cB cI cJ cZ cQ aHh aShh s1 s2 fsaHh fsaShh)) [0, 1] (by decide) rfl
  have hFc := va_free (wc := (ws_h_told cB cI cJ cZ cQ aHh aShh s1 s2 fsaHh fsaShh)) hD hS hA [0, 1] rfl
  refine va_calli (va_runV (As := [.int s1, .int s2]) (rest := []) ⟨hx, hb, hml, hown, hts⟩ (h_told l dC dI cB cI cJ cZ cQ aHh aShh s1 s2 fsaHh fsaShh H.size hlaHh haH_6h hlaShh haSh_6h) (cwV 2 hts gL_h_told rfl rfl rfl (by decide +kernel) ⟨Nat.le_of_ble_eq_true rfl, Nat.le_of_ble_eq_true rfl⟩) ⟨zFB, va_recv hK hP (ci := 11) (q0 := 0) rfl rfl, fun U hU hW => zUp hU hW hPc hK hO hDc⟩ rfl rfl hl.1 rfl (lv_room (Nat.le_of_ble_eq_true rfl)) dL_law_701 ⟨Nat.le_of_ble_eq_true rfl, Nat.le_of_ble_eq_true rfl⟩) hS (fun q _ h => hFc q h) hFc (fun r3 u t H1 locs ht hvm hw4 hB hz1 hk1 hS => ?_)
  have hP1 : va_P (dC, dI) vwCl [] H1 := zNilP
  have hD1 : va_D (va_A (ws_h_told cB cI cJ cZ cQ aHh aShh s1 s2 fsaHh fsaShh) H.size) [] := zNilD
  obtain ⟨hP, hD⟩ := va_join (wr := [(aMm, .inr (12, fsaMm))]) (w1 := []) hP hD [0, 1] [2] rfl rfl (by decide) (by decide) hk1 hFc hP1 hD1
  generalize H1 = H at hP hS ⊢
  have hP : va_P (dC, dI) vwCl [(aMm, .inr (12, fsaMm))] H := hP
  have hD : va_D A [(aMm, .inr (12, fsaMm))] := hD
  obtain rfl : r3 = (-1) := hw4
  refine lv_aload_n hx hb dL_law_704 rfl (lv_at hl 1 rfl) ?_
  refine lv_aload_n hx hb dL_law_705 rfl (lv_at hl 3 rfl) ?_
  refine lv_iload_n hx hb dL_law_706 rfl (lv_at hl 0 rfl) ?_
  refine lv_iconst (v := 1) hx hb dL_law_707 (by decide) ?_
  refine lv_iadd hx hb dL_law_708 ?_
  refine lv_topi (fun x5 ex5 => ?_)
  obtain rfl : x5 = 1 := ex5.trans (by decide)
  refine z_sld hx hb hX hbl hbA hS (show ¬ ((1 : Int32) < 0 ∨ 6 ≤ (1 : Int32).toNatClampNeg) from by decide) (v := s1) es1 dL_law_709 ?_
  refine lv_aload_n hx hb dL_law_710 rfl (lv_at hl 3 rfl) ?_
  refine lv_iload_n hx hb dL_law_711 rfl (lv_at hl 0 rfl) ?_
  refine lv_iconst (v := 2) hx hb dL_law_712 (by decide) ?_
  refine lv_iadd hx hb dL_law_713 ?_
  refine lv_topi (fun x6 ex6 => ?_)
  obtain rfl : x6 = 2 := ex6.trans (by decide)
  refine z_sld hx hb hX hbl hbA hS (show ¬ ((2 : Int32) < 0 ∨ 6 ≤ (2 : Int32).toNatClampNeg) from by decide) (v := s2) es2 dL_law_714 ?_
  have hPc : va_P (dC, dI) vwCl (ws_m_told cB cI cJ cZ cQ aMm s1 s2 fsaMm) H := hP.sub [0] rfl
  have hDc := hD.sub (ws' := (ws_m_told cB cI cJ cZ cQ aMm s1 s2 fsaMm)) [0] (by decide) rfl
  have hFc := va_free (wc := (ws_m_told cB cI cJ cZ cQ aMm s1 s2 fsaMm)) hD hS hA [0] rfl
  refine va_calli (va_runV (As := [.int s1, .int s2]) (rest := [.int (-1)]) ⟨hx, hb, hml, hown, hts⟩ (m_told l dC dI cB cI cJ cZ cQ aMm s1 s2 fsaMm H.size hlaMm haM_59m) (cwV 2 hts gL_m_told rfl rfl rfl (by decide +kernel) ⟨Nat.le_of_ble_eq_true rfl, Nat.le_of_ble_eq_true rfl⟩) ⟨zFB, va_recv hK hP (ci := 12) (q0 := 0) rfl rfl, fun U hU hW => zUp hU hW hPc hK hO hDc⟩ rfl rfl hl.1 rfl (lv_room (Nat.le_of_ble_eq_true rfl)) dL_law_715 ⟨Nat.le_of_ble_eq_true rfl, Nat.le_of_ble_eq_true rfl⟩) hS (fun q _ h => hFc q h) hFc (fun r7 u t H1 locs ht hvm hw8 hB hz1 hk1 hS => ?_)
  have hP1 : va_P (dC, dI) vwCl [] H1 := zNilP
  have hD1 : va_D (va_A (ws_m_told cB cI cJ cZ cQ aMm s1 s2 fsaMm) H.size) [] := zNilD
  obtain ⟨hP, hD⟩ := va_join (wr := []) (w1 := []) hP hD [0] [] rfl rfl (by decide) (by decide) hk1 hFc hP1 hD1
  generalize H1 = H at hP hS ⊢
  have hP : va_P (dC, dI) vwCl [] H := hP
  have hD : va_D A [] := hD
  obtain rfl : r7 = (-1) := hw8
  refine lv_icmp_eq (tgt := 888) hx hb dL_law_718 (by decide) (fun _ => ?_) (fun zc => absurd zc (by decide))
  refine lv_iinc (v := 6) (lv' := [(3, .int 6), (2, .ref aMm), (1, .ref aHh), (0, .ref b)]) hx hb dL_law_888 hl (k := 0) rfl (by decide) (by decide) rfl (fun ls hl => ?_)
  refine lv_goto (tgt := 18) hx hb dL_law_891 (by decide) ?_
  refine lv_iload_n hx hb dL_law_18 rfl (lv_at hl 0 rfl) ?_
  refine lv_aload_n hx hb dL_law_19 rfl (lv_at hl 3 rfl) ?_
  refine va_slen hx hb hX hbl hbA hS dL_law_20 ?_
  refine lv_topi (fun x9 ex9 => ?_)
  obtain rfl : x9 = 6 := ex9.trans (by decide)
  refine lv_bipush (v := 6) hx hb dL_law_21 (by decide) ?_
  refine lv_isub hx hb dL_law_23 ?_
  refine lv_topi (fun x10 ex10 => ?_)
  obtain rfl : x10 = 0 := ex10.trans (by decide)
  refine lv_icmp_gt (tgt := 894) hx hb dL_law_24 (by decide) (fun _ => ?_) (fun zc => absurd zc (by decide))
  refine lv_iconst (v := 1) hx hb dL_law_894 (by decide) ?_
  refine va_forget (fun q hq => by have := hS.2.2 q hq; rw [hAe] at this; exact this) ?_
  refine W.widen (k := 600000) (n := 7302250) (Nat.le_of_ble_eq_true rfl) (Nat.le_of_ble_eq_true rfl) ?_
  exact lw_ret hx hb hr hlocks dL_law_895

set_option maxHeartbeats 4000000 in
set_option maxRecDepth 100000 in
theorem lc_cue {p : Program} {e : Env} {s : State} {m : MethodId} {below : List Frame} {meth : Method} {c : Code} (l : Launch) {b : Nat} {xs : Nat → Int32} (C0 : lw_At p s m meth c b 6 xs) (dC : Nat → ClassId) (dI : Nat → Nat → Nat) (cB cI cJ cZ cQ : ClassId) (hK : va_K (dC, dI) vwCl (zTY cB cI cJ cZ cQ) s) (hO : zAO s) (A : Nat → Prop) (hAe : A = fun q : Nat => s.heap.size ≤ q) (aHh aMm : Nat) (fsaHh : List Value) (fsaMm : List Value) (hlaHh : fsaHh.length = 13) (haH_12h : fsaHh[12]? = some (.int 0)) (hlaMm : fsaMm.length = 87) (haM_59m : fsaMm[59]? = some (.int 0)) (s1 s2 s3 s4 s5 : Int32) (es1 : xs (1 : Int32).toNatClampNeg = s1) (es2 : xs (2 : Int32).toNatClampNeg = s2) (es3 : xs (3 : Int32).toNatClampNeg = s3) (es4 : xs (4 : Int32).toNatClampNeg = s4) (es5 : xs (5 : Int32).toNatClampNeg = s5) (H : Heap) (locs : List Loc) (ls : Array Slot) (hP : va_P (dC, dI) vwCl [(aHh, .inr (11, fsaHh)), (aMm, .inr (12, fsaMm))] H) (hD : va_D A [(aHh, .inr (11, fsaHh)), (aMm, .inr (12, fsaMm))]) (hS : va_S A s.heap H locs) (hl : lv_has ls 4 [(3, .int 0), (2, .ref aMm), (1, .ref aHh), (0, .ref b)]) : W p l e room_1 s m #[Value.ref b] below meth c H locs 139 25402 (lw_Z below #[Value.ref b] s) (F0 m 723 ls []) := by
  obtain ⟨hx, hb, hr, hml, hown0, hts0, hX, hbl, hlocks, hgv⟩ := C0
  have hts := hts0
  have hown : s.vm.findClass RL = some m.cls := hown0
  have hA : ∀ q : Nat, s.heap.size ≤ q → A q := fun q h => by rw [hAe]; exact h
  have hbA : ¬ A b := by rw [hAe]; exact Nat.not_le.mpr hbl
  refine lv_aload_n hx hb dL_law_723 rfl (lv_at hl 2 rfl) ?_
  refine lv_aload_n hx hb dL_law_724 rfl (lv_at hl 3 rfl) ?_
  refine lv_iload_n hx hb dL_law_725 rfl (lv_at hl 0 rfl) ?_
  refine lv_iconst (v := 1) hx hb dL_law_726 (by decide) ?_
  refine lv_iadd hx hb dL_law_727 ?_
  refine lv_topi (fun x1 ex1 => ?_)
  obtain rfl : x1 = 1 := ex1.trans (by decide)
  refine z_sld hx hb hX hbl hbA hS (show ¬ ((1 : Int32) < 0 ∨ 6 ≤ (1 : Int32).toNatClampNeg) from by decide) (v := s1) es1 dL_law_728 ?_
  refine lv_aload_n hx hb dL_law_729 rfl (lv_at hl 3 rfl) ?_
  refine lv_iload_n hx hb dL_law_730 rfl (lv_at hl 0 rfl) ?_
  refine lv_iconst (v := 2) hx hb dL_law_731 (by decide) ?_
  refine lv_iadd hx hb dL_law_732 ?_
  refine lv_topi (fun x2 ex2 => ?_)
  obtain rfl : x2 = 2 := ex2.trans (by decide)
  refine z_sld hx hb hX hbl hbA hS (show ¬ ((2 : Int32) < 0 ∨ 6 ≤ (2 : Int32).toNatClampNeg) from by decide) (v := s2) es2 dL_law_733 ?_
  refine lv_aload_n hx hb dL_law_734 rfl (lv_at hl 3 rfl) ?_
  refine lv_iload_n hx hb dL_law_735 rfl (lv_at hl 0 rfl) ?_
  refine lv_iconst (v := 3) hx hb dL_law_736 (by decide) ?_
  refine lv_iadd hx hb dL_law_737 ?_
  refine lv_topi (fun x3 ex3 => ?_)
  obtain rfl : x3 = 3 := ex3.trans (by decide)
  refine z_sld hx hb hX hbl hbA hS (show ¬ ((3 : Int32) < 0 ∨ 6 ≤ (3 : Int32).toNatClampNeg) from by decide) (v := s3) es3 dL_law_738 ?_
  have hPc : va_P (dC, dI) vwCl (ws_h_cue cB cI cJ cZ cQ aHh s1 s2 s3 fsaHh) H := hP.sub [0] rfl
  have hDc := hD.sub (ws' := (ws_h_cue cB cI cJ cZ cQ aHh s1 s2 s3 fsaHh)) [0] (by decide) rfl
  have hFc := va_free (wc := (ws_h_cue cB cI cJ cZ cQ aHh s1 s2 s3 fsaHh)) hD hS hA [0] rfl
  refine va_calli (va_runV (As := [.int s1, .int s2, .int s3]) (rest := []) ⟨hx, hb, hml, hown, hts⟩ (h_cue l dC dI cB cI cJ cZ cQ aHh s1 s2 s3 fsaHh H.size hlaHh haH_12h) (cwV 3 hts gL_h_cue rfl rfl rfl (by decide +kernel) ⟨Nat.le_of_ble_eq_true rfl, Nat.le_of_ble_eq_true rfl⟩) ⟨zFB, va_recv hK hP (ci := 11) (q0 := 0) rfl rfl, fun U hU hW => zUp hU hW hPc hK hO hDc⟩ rfl rfl hl.1 rfl (lv_room (Nat.le_of_ble_eq_true rfl)) dL_law_739 ⟨Nat.le_of_ble_eq_true rfl, Nat.le_of_ble_eq_true rfl⟩) hS (fun q _ h => hFc q h) hFc (fun r4 u t H1 locs ht hvm hw5 hB hz1 hk1 hS => ?_)
  have hP1 : va_P (dC, dI) vwCl [] H1 := zNilP
  have hD1 : va_D (va_A (ws_h_cue cB cI cJ cZ cQ aHh s1 s2 s3 fsaHh) H.size) [] := zNilD
  obtain ⟨hP, hD⟩ := va_join (wr := [(aMm, .inr (12, fsaMm))]) (w1 := []) hP hD [0] [1] rfl rfl (by decide) (by decide) hk1 hFc hP1 hD1
  generalize H1 = H at hP hS ⊢
  have hP : va_P (dC, dI) vwCl [(aMm, .inr (12, fsaMm))] H := hP
  have hD : va_D A [(aMm, .inr (12, fsaMm))] := hD
  obtain rfl : r4 = (-1) := hw5
  refine lv_aload_n hx hb dL_law_742 rfl (lv_at hl 1 rfl) ?_
  refine lv_aload_n hx hb dL_law_743 rfl (lv_at hl 3 rfl) ?_
  refine lv_iload_n hx hb dL_law_744 rfl (lv_at hl 0 rfl) ?_
  refine lv_iconst (v := 1) hx hb dL_law_745 (by decide) ?_
  refine lv_iadd hx hb dL_law_746 ?_
  refine lv_topi (fun x6 ex6 => ?_)
  obtain rfl : x6 = 1 := ex6.trans (by decide)
  refine z_sld hx hb hX hbl hbA hS (show ¬ ((1 : Int32) < 0 ∨ 6 ≤ (1 : Int32).toNatClampNeg) from by decide) (v := s1) es1 dL_law_747 ?_
  refine lv_aload_n hx hb dL_law_748 rfl (lv_at hl 3 rfl) ?_
  refine lv_iload_n hx hb dL_law_749 rfl (lv_at hl 0 rfl) ?_
  refine lv_iconst (v := 2) hx hb dL_law_750 (by decide) ?_
  refine lv_iadd hx hb dL_law_751 ?_
  refine lv_topi (fun x7 ex7 => ?_)
  obtain rfl : x7 = 2 := ex7.trans (by decide)
  refine z_sld hx hb hX hbl hbA hS (show ¬ ((2 : Int32) < 0 ∨ 6 ≤ (2 : Int32).toNatClampNeg) from by decide) (v := s2) es2 dL_law_752 ?_
  refine lv_aload_n hx hb dL_law_753 rfl (lv_at hl 3 rfl) ?_
  refine lv_iload_n hx hb dL_law_754 rfl (lv_at hl 0 rfl) ?_
  refine lv_iconst (v := 3) hx hb dL_law_755 (by decide) ?_
  refine lv_iadd hx hb dL_law_756 ?_
  refine lv_topi (fun x8 ex8 => ?_)
  obtain rfl : x8 = 3 := ex8.trans (by decide)
  refine z_sld hx hb hX hbl hbA hS (show ¬ ((3 : Int32) < 0 ∨ 6 ≤ (3 : Int32).toNatClampNeg) from by decide) (v := s3) es3 dL_law_757 ?_
  have hPc : va_P (dC, dI) vwCl (ws_m_cue cB cI cJ cZ cQ aMm s1 s2 s3 fsaMm) H := hP.sub [0] rfl
  have hDc := hD.sub (ws' := (ws_m_cue cB cI cJ cZ cQ aMm s1 s2 s3 fsaMm)) [0] (by decide) rfl
  have hFc := va_free (wc := (ws_m_cue cB cI cJ cZ cQ aMm s1 s2 s3 fsaMm)) hD hS hA [0] rfl
  refine va_calli (va_runV (As := [.int s1, .int s2, .int s3]) (rest := [.int (-1)]) ⟨hx, hb, hml, hown, hts⟩ (m_cue l dC dI cB cI cJ cZ cQ aMm s1 s2 s3 fsaMm H.size hlaMm haM_59m) (cwV 3 hts gL_m_cue rfl rfl rfl (by decide +kernel) ⟨Nat.le_of_ble_eq_true rfl, Nat.le_of_ble_eq_true rfl⟩) ⟨zFB, va_recv hK hP (ci := 12) (q0 := 0) rfl rfl, fun U hU hW => zUp hU hW hPc hK hO hDc⟩ rfl rfl hl.1 rfl (lv_room (Nat.le_of_ble_eq_true rfl)) dL_law_758 ⟨Nat.le_of_ble_eq_true rfl, Nat.le_of_ble_eq_true rfl⟩) hS (fun q _ h => hFc q h) hFc (fun r9 u t H1 locs ht hvm hw10 hB hz1 hk1 hS => ?_)
  have hP1 : va_P (dC, dI) vwCl [] H1 := zNilP
  have hD1 : va_D (va_A (ws_m_cue cB cI cJ cZ cQ aMm s1 s2 s3 fsaMm) H.size) [] := zNilD
  obtain ⟨hP, hD⟩ := va_join (wr := []) (w1 := []) hP hD [0] [] rfl rfl (by decide) (by decide) hk1 hFc hP1 hD1
  generalize H1 = H at hP hS ⊢
  have hP : va_P (dC, dI) vwCl [] H := hP
  have hD : va_D A [] := hD
  obtain rfl : r9 = (-1) := hw10
  refine lv_icmp_eq (tgt := 888) hx hb dL_law_761 (by decide) (fun _ => ?_) (fun zc => absurd zc (by decide))
  refine lv_iinc (v := 6) (lv' := [(3, .int 6), (2, .ref aMm), (1, .ref aHh), (0, .ref b)]) hx hb dL_law_888 hl (k := 0) rfl (by decide) (by decide) rfl (fun ls hl => ?_)
  refine lv_goto (tgt := 18) hx hb dL_law_891 (by decide) ?_
  refine lv_iload_n hx hb dL_law_18 rfl (lv_at hl 0 rfl) ?_
  refine lv_aload_n hx hb dL_law_19 rfl (lv_at hl 3 rfl) ?_
  refine va_slen hx hb hX hbl hbA hS dL_law_20 ?_
  refine lv_topi (fun x11 ex11 => ?_)
  obtain rfl : x11 = 6 := ex11.trans (by decide)
  refine lv_bipush (v := 6) hx hb dL_law_21 (by decide) ?_
  refine lv_isub hx hb dL_law_23 ?_
  refine lv_topi (fun x12 ex12 => ?_)
  obtain rfl : x12 = 0 := ex12.trans (by decide)
  refine lv_icmp_gt (tgt := 894) hx hb dL_law_24 (by decide) (fun _ => ?_) (fun zc => absurd zc (by decide))
  refine lv_iconst (v := 1) hx hb dL_law_894 (by decide) ?_
  refine va_forget (fun q hq => by have := hS.2.2 q hq; rw [hAe] at this; exact this) ?_
  refine W.widen (k := 600000) (n := 7302250) (Nat.le_of_ble_eq_true rfl) (Nat.le_of_ble_eq_true rfl) ?_
  exact lw_ret hx hb hr hlocks dL_law_895

set_option maxHeartbeats 4000000 in
set_option maxRecDepth 100000 in
theorem lc_showing {p : Program} {e : Env} {s : State} {m : MethodId} {below : List Frame} {meth : Method} {c : Code} (l : Launch) {b : Nat} {xs : Nat → Int32} (C0 : lw_At p s m meth c b 6 xs) (dC : Nat → ClassId) (dI : Nat → Nat → Nat) (cB cI cJ cZ cQ : ClassId) (hK : va_K (dC, dI) vwCl (zTY cB cI cJ cZ cQ) s) (hO : zAO s) (A : Nat → Prop) (hAe : A = fun q : Nat => s.heap.size ≤ q) (aHh aMm : Nat) (fsaHh : List Value) (fsaMm : List Value) (hlaHh : fsaHh.length = 13) (haH_12h : fsaHh[12]? = some (.int 0)) (hlaMm : fsaMm.length = 87) (haM_59m : fsaMm[59]? = some (.int 0)) (s1 s2 s3 s4 s5 : Int32) (es1 : xs (1 : Int32).toNatClampNeg = s1) (es2 : xs (2 : Int32).toNatClampNeg = s2) (es3 : xs (3 : Int32).toNatClampNeg = s3) (es4 : xs (4 : Int32).toNatClampNeg = s4) (es5 : xs (5 : Int32).toNatClampNeg = s5) (H : Heap) (locs : List Loc) (ls : Array Slot) (hP : va_P (dC, dI) vwCl [(aHh, .inr (11, fsaHh)), (aMm, .inr (12, fsaMm))] H) (hD : va_D A [(aHh, .inr (11, fsaHh)), (aMm, .inr (12, fsaMm))]) (hS : va_S A s.heap H locs) (hl : lv_has ls 4 [(3, .int 0), (2, .ref aMm), (1, .ref aHh), (0, .ref b)]) : W p l e room_1 s m #[Value.ref b] below meth c H locs 139 25402 (lw_Z below #[Value.ref b] s) (F0 m 766 ls []) := by
  obtain ⟨hx, hb, hr, hml, hown0, hts0, hX, hbl, hlocks, hgv⟩ := C0
  have hts := hts0
  have hown : s.vm.findClass RL = some m.cls := hown0
  have hA : ∀ q : Nat, s.heap.size ≤ q → A q := fun q h => by rw [hAe]; exact h
  have hbA : ¬ A b := by rw [hAe]; exact Nat.not_le.mpr hbl
  refine lv_aload_n hx hb dL_law_766 rfl (lv_at hl 2 rfl) ?_
  refine lv_aload_n hx hb dL_law_767 rfl (lv_at hl 3 rfl) ?_
  refine lv_iload_n hx hb dL_law_768 rfl (lv_at hl 0 rfl) ?_
  refine lv_iconst (v := 1) hx hb dL_law_769 (by decide) ?_
  refine lv_iadd hx hb dL_law_770 ?_
  refine lv_topi (fun x1 ex1 => ?_)
  obtain rfl : x1 = 1 := ex1.trans (by decide)
  refine z_sld hx hb hX hbl hbA hS (show ¬ ((1 : Int32) < 0 ∨ 6 ≤ (1 : Int32).toNatClampNeg) from by decide) (v := s1) es1 dL_law_771 ?_
  refine lv_aload_n hx hb dL_law_772 rfl (lv_at hl 3 rfl) ?_
  refine lv_iload_n hx hb dL_law_773 rfl (lv_at hl 0 rfl) ?_
  refine lv_iconst (v := 2) hx hb dL_law_774 (by decide) ?_
  refine lv_iadd hx hb dL_law_775 ?_
  refine lv_topi (fun x2 ex2 => ?_)
  obtain rfl : x2 = 2 := ex2.trans (by decide)
  refine z_sld hx hb hX hbl hbA hS (show ¬ ((2 : Int32) < 0 ∨ 6 ≤ (2 : Int32).toNatClampNeg) from by decide) (v := s2) es2 dL_law_776 ?_
  have hPc : va_P (dC, dI) vwCl (ws_h_showing cB cI cJ cZ cQ aHh s1 s2 fsaHh) H := hP.sub [0] rfl
  have hDc := hD.sub (ws' := (ws_h_showing cB cI cJ cZ cQ aHh s1 s2 fsaHh)) [0] (by decide) rfl
  have hFc := va_free (wc := (ws_h_showing cB cI cJ cZ cQ aHh s1 s2 fsaHh)) hD hS hA [0] rfl
  refine va_calli (va_runV (As := [.int s1, .int s2]) (rest := []) ⟨hx, hb, hml, hown, hts⟩ (h_showing l dC dI cB cI cJ cZ cQ aHh s1 s2 fsaHh H.size hlaHh haH_12h) (cwV 2 hts gL_h_showing rfl rfl rfl (by decide +kernel) ⟨Nat.le_of_ble_eq_true rfl, Nat.le_of_ble_eq_true rfl⟩) ⟨zFB, va_recv hK hP (ci := 11) (q0 := 0) rfl rfl, fun U hU hW => zUp hU hW hPc hK hO hDc⟩ rfl rfl hl.1 rfl (lv_room (Nat.le_of_ble_eq_true rfl)) dL_law_777 ⟨Nat.le_of_ble_eq_true rfl, Nat.le_of_ble_eq_true rfl⟩) hS (fun q _ h => hFc q h) hFc (fun r3 u t H1 locs ht hvm hw4 hB hz1 hk1 hS => ?_)
  have hP1 : va_P (dC, dI) vwCl [] H1 := zNilP
  have hD1 : va_D (va_A (ws_h_showing cB cI cJ cZ cQ aHh s1 s2 fsaHh) H.size) [] := zNilD
  obtain ⟨hP, hD⟩ := va_join (wr := [(aMm, .inr (12, fsaMm))]) (w1 := []) hP hD [0] [1] rfl rfl (by decide) (by decide) hk1 hFc hP1 hD1
  generalize H1 = H at hP hS ⊢
  have hP : va_P (dC, dI) vwCl [(aMm, .inr (12, fsaMm))] H := hP
  have hD : va_D A [(aMm, .inr (12, fsaMm))] := hD
  obtain rfl : r3 = (-1) := hw4
  refine lv_aload_n hx hb dL_law_780 rfl (lv_at hl 1 rfl) ?_
  refine lv_aload_n hx hb dL_law_781 rfl (lv_at hl 3 rfl) ?_
  refine lv_iload_n hx hb dL_law_782 rfl (lv_at hl 0 rfl) ?_
  refine lv_iconst (v := 1) hx hb dL_law_783 (by decide) ?_
  refine lv_iadd hx hb dL_law_784 ?_
  refine lv_topi (fun x5 ex5 => ?_)
  obtain rfl : x5 = 1 := ex5.trans (by decide)
  refine z_sld hx hb hX hbl hbA hS (show ¬ ((1 : Int32) < 0 ∨ 6 ≤ (1 : Int32).toNatClampNeg) from by decide) (v := s1) es1 dL_law_785 ?_
  refine lv_aload_n hx hb dL_law_786 rfl (lv_at hl 3 rfl) ?_
  refine lv_iload_n hx hb dL_law_787 rfl (lv_at hl 0 rfl) ?_
  refine lv_iconst (v := 2) hx hb dL_law_788 (by decide) ?_
  refine lv_iadd hx hb dL_law_789 ?_
  refine lv_topi (fun x6 ex6 => ?_)
  obtain rfl : x6 = 2 := ex6.trans (by decide)
  refine z_sld hx hb hX hbl hbA hS (show ¬ ((2 : Int32) < 0 ∨ 6 ≤ (2 : Int32).toNatClampNeg) from by decide) (v := s2) es2 dL_law_790 ?_
  have hPc : va_P (dC, dI) vwCl (ws_m_showing cB cI cJ cZ cQ aMm s1 s2 fsaMm) H := hP.sub [0] rfl
  have hDc := hD.sub (ws' := (ws_m_showing cB cI cJ cZ cQ aMm s1 s2 fsaMm)) [0] (by decide) rfl
  have hFc := va_free (wc := (ws_m_showing cB cI cJ cZ cQ aMm s1 s2 fsaMm)) hD hS hA [0] rfl
  refine va_calli (va_runV (As := [.int s1, .int s2]) (rest := [.int (-1)]) ⟨hx, hb, hml, hown, hts⟩ (m_showing l dC dI cB cI cJ cZ cQ aMm s1 s2 fsaMm H.size hlaMm haM_59m) (cwV 2 hts gL_m_showing rfl rfl rfl (by decide +kernel) ⟨Nat.le_of_ble_eq_true rfl, Nat.le_of_ble_eq_true rfl⟩) ⟨zFB, va_recv hK hP (ci := 12) (q0 := 0) rfl rfl, fun U hU hW => zUp hU hW hPc hK hO hDc⟩ rfl rfl hl.1 rfl (lv_room (Nat.le_of_ble_eq_true rfl)) dL_law_791 ⟨Nat.le_of_ble_eq_true rfl, Nat.le_of_ble_eq_true rfl⟩) hS (fun q _ h => hFc q h) hFc (fun r7 u t H1 locs ht hvm hw8 hB hz1 hk1 hS => ?_)
  have hP1 : va_P (dC, dI) vwCl [] H1 := zNilP
  have hD1 : va_D (va_A (ws_m_showing cB cI cJ cZ cQ aMm s1 s2 fsaMm) H.size) [] := zNilD
  obtain ⟨hP, hD⟩ := va_join (wr := []) (w1 := []) hP hD [0] [] rfl rfl (by decide) (by decide) hk1 hFc hP1 hD1
  generalize H1 = H at hP hS ⊢
  have hP : va_P (dC, dI) vwCl [] H := hP
  have hD : va_D A [] := hD
  obtain rfl : r7 = (-1) := hw8
  refine lv_icmp_eq (tgt := 888) hx hb dL_law_794 (by decide) (fun _ => ?_) (fun zc => absurd zc (by decide))
  refine lv_iinc (v := 6) (lv' := [(3, .int 6), (2, .ref aMm), (1, .ref aHh), (0, .ref b)]) hx hb dL_law_888 hl (k := 0) rfl (by decide) (by decide) rfl (fun ls hl => ?_)
  refine lv_goto (tgt := 18) hx hb dL_law_891 (by decide) ?_
  refine lv_iload_n hx hb dL_law_18 rfl (lv_at hl 0 rfl) ?_
  refine lv_aload_n hx hb dL_law_19 rfl (lv_at hl 3 rfl) ?_
  refine va_slen hx hb hX hbl hbA hS dL_law_20 ?_
  refine lv_topi (fun x9 ex9 => ?_)
  obtain rfl : x9 = 6 := ex9.trans (by decide)
  refine lv_bipush (v := 6) hx hb dL_law_21 (by decide) ?_
  refine lv_isub hx hb dL_law_23 ?_
  refine lv_topi (fun x10 ex10 => ?_)
  obtain rfl : x10 = 0 := ex10.trans (by decide)
  refine lv_icmp_gt (tgt := 894) hx hb dL_law_24 (by decide) (fun _ => ?_) (fun zc => absurd zc (by decide))
  refine lv_iconst (v := 1) hx hb dL_law_894 (by decide) ?_
  refine va_forget (fun q hq => by have := hS.2.2 q hq; rw [hAe] at this; exact this) ?_
  refine W.widen (k := 600000) (n := 7302250) (Nat.le_of_ble_eq_true rfl) (Nat.le_of_ble_eq_true rfl) ?_
  exact lw_ret hx hb hr hlocks dL_law_895

set_option maxHeartbeats 4000000 in
set_option maxRecDepth 100000 in
theorem lc_blame {p : Program} {e : Env} {s : State} {m : MethodId} {below : List Frame} {meth : Method} {c : Code} (l : Launch) {b : Nat} {xs : Nat → Int32} (C0 : lw_At p s m meth c b 6 xs) (dC : Nat → ClassId) (dI : Nat → Nat → Nat) (cB cI cJ cZ cQ : ClassId) (hK : va_K (dC, dI) vwCl (zTY cB cI cJ cZ cQ) s) (hO : zAO s) (A : Nat → Prop) (hAe : A = fun q : Nat => s.heap.size ≤ q) (aHh aMm : Nat) (fsaHh : List Value) (fsaMm : List Value) (hlaHh : fsaHh.length = 13) (haH_12h : fsaHh[12]? = some (.int 0)) (hlaMm : fsaMm.length = 87) (haM_49m : fsaMm[49]? = some (.int 0)) (s1 s2 s3 s4 s5 : Int32) (es1 : xs (1 : Int32).toNatClampNeg = s1) (es2 : xs (2 : Int32).toNatClampNeg = s2) (es3 : xs (3 : Int32).toNatClampNeg = s3) (es4 : xs (4 : Int32).toNatClampNeg = s4) (es5 : xs (5 : Int32).toNatClampNeg = s5) (H : Heap) (locs : List Loc) (ls : Array Slot) (hP : va_P (dC, dI) vwCl [(aHh, .inr (11, fsaHh)), (aMm, .inr (12, fsaMm))] H) (hD : va_D A [(aHh, .inr (11, fsaHh)), (aMm, .inr (12, fsaMm))]) (hS : va_S A s.heap H locs) (hl : lv_has ls 4 [(3, .int 0), (2, .ref aMm), (1, .ref aHh), (0, .ref b)]) : W p l e room_1 s m #[Value.ref b] below meth c H locs 139 25402 (lw_Z below #[Value.ref b] s) (F0 m 799 ls []) := by
  obtain ⟨hx, hb, hr, hml, hown0, hts0, hX, hbl, hlocks, hgv⟩ := C0
  have hts := hts0
  have hown : s.vm.findClass RL = some m.cls := hown0
  have hA : ∀ q : Nat, s.heap.size ≤ q → A q := fun q h => by rw [hAe]; exact h
  have hbA : ¬ A b := by rw [hAe]; exact Nat.not_le.mpr hbl
  refine lv_aload_n hx hb dL_law_799 rfl (lv_at hl 2 rfl) ?_
  refine lv_aload_n hx hb dL_law_800 rfl (lv_at hl 3 rfl) ?_
  refine lv_iload_n hx hb dL_law_801 rfl (lv_at hl 0 rfl) ?_
  refine lv_iconst (v := 1) hx hb dL_law_802 (by decide) ?_
  refine lv_iadd hx hb dL_law_803 ?_
  refine lv_topi (fun x1 ex1 => ?_)
  obtain rfl : x1 = 1 := ex1.trans (by decide)
  refine z_sld hx hb hX hbl hbA hS (show ¬ ((1 : Int32) < 0 ∨ 6 ≤ (1 : Int32).toNatClampNeg) from by decide) (v := s1) es1 dL_law_804 ?_
  refine lv_aload_n hx hb dL_law_805 rfl (lv_at hl 3 rfl) ?_
  refine lv_iload_n hx hb dL_law_806 rfl (lv_at hl 0 rfl) ?_
  refine lv_iconst (v := 2) hx hb dL_law_807 (by decide) ?_
  refine lv_iadd hx hb dL_law_808 ?_
  refine lv_topi (fun x2 ex2 => ?_)
  obtain rfl : x2 = 2 := ex2.trans (by decide)
  refine z_sld hx hb hX hbl hbA hS (show ¬ ((2 : Int32) < 0 ∨ 6 ≤ (2 : Int32).toNatClampNeg) from by decide) (v := s2) es2 dL_law_809 ?_
  have hPc : va_P (dC, dI) vwCl (ws_h_blame cB cI cJ cZ cQ aHh s1 s2 fsaHh) H := hP.sub [0] rfl
  have hDc := hD.sub (ws' := (ws_h_blame cB cI cJ cZ cQ aHh s1 s2 fsaHh)) [0] (by decide) rfl
  have hFc := va_free (wc := (ws_h_blame cB cI cJ cZ cQ aHh s1 s2 fsaHh)) hD hS hA [0] rfl
  refine va_calli (va_runV (As := [.int s1, .int s2]) (rest := []) ⟨hx, hb, hml, hown, hts⟩ (h_blame l dC dI cB cI cJ cZ cQ aHh s1 s2 fsaHh H.size hlaHh haH_12h) (cwV 2 hts gL_h_blame rfl rfl rfl (by decide +kernel) ⟨Nat.le_of_ble_eq_true rfl, Nat.le_of_ble_eq_true rfl⟩) ⟨zFB, va_recv hK hP (ci := 11) (q0 := 0) rfl rfl, fun U hU hW => zUp hU hW hPc hK hO hDc⟩ rfl rfl hl.1 rfl (lv_room (Nat.le_of_ble_eq_true rfl)) dL_law_810 ⟨Nat.le_of_ble_eq_true rfl, Nat.le_of_ble_eq_true rfl⟩) hS (fun q _ h => hFc q h) hFc (fun r3 u t H1 locs ht hvm hw4 hB hz1 hk1 hS => ?_)
  have hP1 : va_P (dC, dI) vwCl [] H1 := zNilP
  have hD1 : va_D (va_A (ws_h_blame cB cI cJ cZ cQ aHh s1 s2 fsaHh) H.size) [] := zNilD
  obtain ⟨hP, hD⟩ := va_join (wr := [(aMm, .inr (12, fsaMm))]) (w1 := []) hP hD [0] [1] rfl rfl (by decide) (by decide) hk1 hFc hP1 hD1
  generalize H1 = H at hP hS ⊢
  have hP : va_P (dC, dI) vwCl [(aMm, .inr (12, fsaMm))] H := hP
  have hD : va_D A [(aMm, .inr (12, fsaMm))] := hD
  obtain rfl : r3 = (-1) := hw4
  refine lv_aload_n hx hb dL_law_813 rfl (lv_at hl 1 rfl) ?_
  refine lv_aload_n hx hb dL_law_814 rfl (lv_at hl 3 rfl) ?_
  refine lv_iload_n hx hb dL_law_815 rfl (lv_at hl 0 rfl) ?_
  refine lv_iconst (v := 1) hx hb dL_law_816 (by decide) ?_
  refine lv_iadd hx hb dL_law_817 ?_
  refine lv_topi (fun x5 ex5 => ?_)
  obtain rfl : x5 = 1 := ex5.trans (by decide)
  refine z_sld hx hb hX hbl hbA hS (show ¬ ((1 : Int32) < 0 ∨ 6 ≤ (1 : Int32).toNatClampNeg) from by decide) (v := s1) es1 dL_law_818 ?_
  refine lv_aload_n hx hb dL_law_819 rfl (lv_at hl 3 rfl) ?_
  refine lv_iload_n hx hb dL_law_820 rfl (lv_at hl 0 rfl) ?_
  refine lv_iconst (v := 2) hx hb dL_law_821 (by decide) ?_
  refine lv_iadd hx hb dL_law_822 ?_
  refine lv_topi (fun x6 ex6 => ?_)
  obtain rfl : x6 = 2 := ex6.trans (by decide)
  refine z_sld hx hb hX hbl hbA hS (show ¬ ((2 : Int32) < 0 ∨ 6 ≤ (2 : Int32).toNatClampNeg) from by decide) (v := s2) es2 dL_law_823 ?_
  have hPc : va_P (dC, dI) vwCl (ws_m_blame cB cI cJ cZ cQ aMm s1 s2 fsaMm) H := hP.sub [0] rfl
  have hDc := hD.sub (ws' := (ws_m_blame cB cI cJ cZ cQ aMm s1 s2 fsaMm)) [0] (by decide) rfl
  have hFc := va_free (wc := (ws_m_blame cB cI cJ cZ cQ aMm s1 s2 fsaMm)) hD hS hA [0] rfl
  refine va_calli (va_runV (As := [.int s1, .int s2]) (rest := [.int (-1)]) ⟨hx, hb, hml, hown, hts⟩ (m_blame l dC dI cB cI cJ cZ cQ aMm s1 s2 fsaMm H.size hlaMm haM_49m) (cwV 2 hts gL_m_blame rfl rfl rfl (by decide +kernel) ⟨Nat.le_of_ble_eq_true rfl, Nat.le_of_ble_eq_true rfl⟩) ⟨zFB, va_recv hK hP (ci := 12) (q0 := 0) rfl rfl, fun U hU hW => zUp hU hW hPc hK hO hDc⟩ rfl rfl hl.1 rfl (lv_room (Nat.le_of_ble_eq_true rfl)) dL_law_824 ⟨Nat.le_of_ble_eq_true rfl, Nat.le_of_ble_eq_true rfl⟩) hS (fun q _ h => hFc q h) hFc (fun r7 u t H1 locs ht hvm hw8 hB hz1 hk1 hS => ?_)
  have hP1 : va_P (dC, dI) vwCl [] H1 := zNilP
  have hD1 : va_D (va_A (ws_m_blame cB cI cJ cZ cQ aMm s1 s2 fsaMm) H.size) [] := zNilD
  obtain ⟨hP, hD⟩ := va_join (wr := []) (w1 := []) hP hD [0] [] rfl rfl (by decide) (by decide) hk1 hFc hP1 hD1
  generalize H1 = H at hP hS ⊢
  have hP : va_P (dC, dI) vwCl [] H := hP
  have hD : va_D A [] := hD
  obtain rfl : r7 = (-1) := hw8
  refine lv_icmp_eq (tgt := 888) hx hb dL_law_827 (by decide) (fun _ => ?_) (fun zc => absurd zc (by decide))
  refine lv_iinc (v := 6) (lv' := [(3, .int 6), (2, .ref aMm), (1, .ref aHh), (0, .ref b)]) hx hb dL_law_888 hl (k := 0) rfl (by decide) (by decide) rfl (fun ls hl => ?_)
  refine lv_goto (tgt := 18) hx hb dL_law_891 (by decide) ?_
  refine lv_iload_n hx hb dL_law_18 rfl (lv_at hl 0 rfl) ?_
  refine lv_aload_n hx hb dL_law_19 rfl (lv_at hl 3 rfl) ?_
  refine va_slen hx hb hX hbl hbA hS dL_law_20 ?_
  refine lv_topi (fun x9 ex9 => ?_)
  obtain rfl : x9 = 6 := ex9.trans (by decide)
  refine lv_bipush (v := 6) hx hb dL_law_21 (by decide) ?_
  refine lv_isub hx hb dL_law_23 ?_
  refine lv_topi (fun x10 ex10 => ?_)
  obtain rfl : x10 = 0 := ex10.trans (by decide)
  refine lv_icmp_gt (tgt := 894) hx hb dL_law_24 (by decide) (fun _ => ?_) (fun zc => absurd zc (by decide))
  refine lv_iconst (v := 1) hx hb dL_law_894 (by decide) ?_
  refine va_forget (fun q hq => by have := hS.2.2 q hq; rw [hAe] at this; exact this) ?_
  refine W.widen (k := 600000) (n := 7302250) (Nat.le_of_ble_eq_true rfl) (Nat.le_of_ble_eq_true rfl) ?_
  exact lw_ret hx hb hr hlocks dL_law_895

set_option maxHeartbeats 4000000 in
set_option maxRecDepth 100000 in
theorem lc_where {p : Program} {e : Env} {s : State} {m : MethodId} {below : List Frame} {meth : Method} {c : Code} (l : Launch) {b : Nat} {xs : Nat → Int32} (C0 : lw_At p s m meth c b 6 xs) (dC : Nat → ClassId) (dI : Nat → Nat → Nat) (cB cI cJ cZ cQ : ClassId) (hK : va_K (dC, dI) vwCl (zTY cB cI cJ cZ cQ) s) (hO : zAO s) (A : Nat → Prop) (hAe : A = fun q : Nat => s.heap.size ≤ q) (aHh aMm : Nat) (fsaHh : List Value) (fsaMm : List Value) (hlaHh : fsaHh.length = 13) (haH_12h : fsaHh[12]? = some (.int 0)) (hlaMm : fsaMm.length = 87) (haM_49m : fsaMm[49]? = some (.int 0)) (s1 s2 s3 s4 s5 : Int32) (es1 : xs (1 : Int32).toNatClampNeg = s1) (es2 : xs (2 : Int32).toNatClampNeg = s2) (es3 : xs (3 : Int32).toNatClampNeg = s3) (es4 : xs (4 : Int32).toNatClampNeg = s4) (es5 : xs (5 : Int32).toNatClampNeg = s5) (H : Heap) (locs : List Loc) (ls : Array Slot) (hP : va_P (dC, dI) vwCl [(aHh, .inr (11, fsaHh)), (aMm, .inr (12, fsaMm))] H) (hD : va_D A [(aHh, .inr (11, fsaHh)), (aMm, .inr (12, fsaMm))]) (hS : va_S A s.heap H locs) (hl : lv_has ls 4 [(3, .int 0), (2, .ref aMm), (1, .ref aHh), (0, .ref b)]) : W p l e room_1 s m #[Value.ref b] below meth c H locs 139 25402 (lw_Z below #[Value.ref b] s) (F0 m 832 ls []) := by
  obtain ⟨hx, hb, hr, hml, hown0, hts0, hX, hbl, hlocks, hgv⟩ := C0
  have hts := hts0
  have hown : s.vm.findClass RL = some m.cls := hown0
  have hA : ∀ q : Nat, s.heap.size ≤ q → A q := fun q h => by rw [hAe]; exact h
  have hbA : ¬ A b := by rw [hAe]; exact Nat.not_le.mpr hbl
  refine lv_aload_n hx hb dL_law_832 rfl (lv_at hl 2 rfl) ?_
  refine lv_aload_n hx hb dL_law_833 rfl (lv_at hl 3 rfl) ?_
  refine lv_iload_n hx hb dL_law_834 rfl (lv_at hl 0 rfl) ?_
  refine lv_iconst (v := 1) hx hb dL_law_835 (by decide) ?_
  refine lv_iadd hx hb dL_law_836 ?_
  refine lv_topi (fun x1 ex1 => ?_)
  obtain rfl : x1 = 1 := ex1.trans (by decide)
  refine z_sld hx hb hX hbl hbA hS (show ¬ ((1 : Int32) < 0 ∨ 6 ≤ (1 : Int32).toNatClampNeg) from by decide) (v := s1) es1 dL_law_837 ?_
  refine lv_aload_n hx hb dL_law_838 rfl (lv_at hl 3 rfl) ?_
  refine lv_iload_n hx hb dL_law_839 rfl (lv_at hl 0 rfl) ?_
  refine lv_iconst (v := 2) hx hb dL_law_840 (by decide) ?_
  refine lv_iadd hx hb dL_law_841 ?_
  refine lv_topi (fun x2 ex2 => ?_)
  obtain rfl : x2 = 2 := ex2.trans (by decide)
  refine z_sld hx hb hX hbl hbA hS (show ¬ ((2 : Int32) < 0 ∨ 6 ≤ (2 : Int32).toNatClampNeg) from by decide) (v := s2) es2 dL_law_842 ?_
  have hPc : va_P (dC, dI) vwCl (ws_h_where cB cI cJ cZ cQ aHh s1 s2 fsaHh) H := hP.sub [0] rfl
  have hDc := hD.sub (ws' := (ws_h_where cB cI cJ cZ cQ aHh s1 s2 fsaHh)) [0] (by decide) rfl
  have hFc := va_free (wc := (ws_h_where cB cI cJ cZ cQ aHh s1 s2 fsaHh)) hD hS hA [0] rfl
  refine va_calli (va_runV (As := [.int s1, .int s2]) (rest := []) ⟨hx, hb, hml, hown, hts⟩ (h_where l dC dI cB cI cJ cZ cQ aHh s1 s2 fsaHh H.size hlaHh haH_12h) (cwV 2 hts gL_h_where rfl rfl rfl (by decide +kernel) ⟨Nat.le_of_ble_eq_true rfl, Nat.le_of_ble_eq_true rfl⟩) ⟨zFB, va_recv hK hP (ci := 11) (q0 := 0) rfl rfl, fun U hU hW => zUp hU hW hPc hK hO hDc⟩ rfl rfl hl.1 rfl (lv_room (Nat.le_of_ble_eq_true rfl)) dL_law_843 ⟨Nat.le_of_ble_eq_true rfl, Nat.le_of_ble_eq_true rfl⟩) hS (fun q _ h => hFc q h) hFc (fun r3 u t H1 locs ht hvm hw4 hB hz1 hk1 hS => ?_)
  have hP1 : va_P (dC, dI) vwCl [] H1 := zNilP
  have hD1 : va_D (va_A (ws_h_where cB cI cJ cZ cQ aHh s1 s2 fsaHh) H.size) [] := zNilD
  obtain ⟨hP, hD⟩ := va_join (wr := [(aMm, .inr (12, fsaMm))]) (w1 := []) hP hD [0] [1] rfl rfl (by decide) (by decide) hk1 hFc hP1 hD1
  generalize H1 = H at hP hS ⊢
  have hP : va_P (dC, dI) vwCl [(aMm, .inr (12, fsaMm))] H := hP
  have hD : va_D A [(aMm, .inr (12, fsaMm))] := hD
  obtain rfl : r3 = (-1) := hw4
  refine lv_aload_n hx hb dL_law_846 rfl (lv_at hl 1 rfl) ?_
  refine lv_aload_n hx hb dL_law_847 rfl (lv_at hl 3 rfl) ?_
  refine lv_iload_n hx hb dL_law_848 rfl (lv_at hl 0 rfl) ?_
  refine lv_iconst (v := 1) hx hb dL_law_849 (by decide) ?_
  refine lv_iadd hx hb dL_law_850 ?_
  refine lv_topi (fun x5 ex5 => ?_)
  obtain rfl : x5 = 1 := ex5.trans (by decide)
  refine z_sld hx hb hX hbl hbA hS (show ¬ ((1 : Int32) < 0 ∨ 6 ≤ (1 : Int32).toNatClampNeg) from by decide) (v := s1) es1 dL_law_851 ?_
  refine lv_aload_n hx hb dL_law_852 rfl (lv_at hl 3 rfl) ?_
  refine lv_iload_n hx hb dL_law_853 rfl (lv_at hl 0 rfl) ?_
  refine lv_iconst (v := 2) hx hb dL_law_854 (by decide) ?_
  refine lv_iadd hx hb dL_law_855 ?_
  refine lv_topi (fun x6 ex6 => ?_)
  obtain rfl : x6 = 2 := ex6.trans (by decide)
  refine z_sld hx hb hX hbl hbA hS (show ¬ ((2 : Int32) < 0 ∨ 6 ≤ (2 : Int32).toNatClampNeg) from by decide) (v := s2) es2 dL_law_856 ?_
  have hPc : va_P (dC, dI) vwCl (ws_m_where cB cI cJ cZ cQ aMm s1 s2 fsaMm) H := hP.sub [0] rfl
  have hDc := hD.sub (ws' := (ws_m_where cB cI cJ cZ cQ aMm s1 s2 fsaMm)) [0] (by decide) rfl
  have hFc := va_free (wc := (ws_m_where cB cI cJ cZ cQ aMm s1 s2 fsaMm)) hD hS hA [0] rfl
  refine va_calli (va_runV (As := [.int s1, .int s2]) (rest := [.int (-1)]) ⟨hx, hb, hml, hown, hts⟩ (m_where l dC dI cB cI cJ cZ cQ aMm s1 s2 fsaMm H.size hlaMm haM_49m) (cwV 2 hts gL_m_where rfl rfl rfl (by decide +kernel) ⟨Nat.le_of_ble_eq_true rfl, Nat.le_of_ble_eq_true rfl⟩) ⟨zFB, va_recv hK hP (ci := 12) (q0 := 0) rfl rfl, fun U hU hW => zUp hU hW hPc hK hO hDc⟩ rfl rfl hl.1 rfl (lv_room (Nat.le_of_ble_eq_true rfl)) dL_law_857 ⟨Nat.le_of_ble_eq_true rfl, Nat.le_of_ble_eq_true rfl⟩) hS (fun q _ h => hFc q h) hFc (fun r7 u t H1 locs ht hvm hw8 hB hz1 hk1 hS => ?_)
  have hP1 : va_P (dC, dI) vwCl [] H1 := zNilP
  have hD1 : va_D (va_A (ws_m_where cB cI cJ cZ cQ aMm s1 s2 fsaMm) H.size) [] := zNilD
  obtain ⟨hP, hD⟩ := va_join (wr := []) (w1 := []) hP hD [0] [] rfl rfl (by decide) (by decide) hk1 hFc hP1 hD1
  generalize H1 = H at hP hS ⊢
  have hP : va_P (dC, dI) vwCl [] H := hP
  have hD : va_D A [] := hD
  obtain rfl : r7 = (-1) := hw8
  refine lv_icmp_eq (tgt := 888) hx hb dL_law_860 (by decide) (fun _ => ?_) (fun zc => absurd zc (by decide))
  refine lv_iinc (v := 6) (lv' := [(3, .int 6), (2, .ref aMm), (1, .ref aHh), (0, .ref b)]) hx hb dL_law_888 hl (k := 0) rfl (by decide) (by decide) rfl (fun ls hl => ?_)
  refine lv_goto (tgt := 18) hx hb dL_law_891 (by decide) ?_
  refine lv_iload_n hx hb dL_law_18 rfl (lv_at hl 0 rfl) ?_
  refine lv_aload_n hx hb dL_law_19 rfl (lv_at hl 3 rfl) ?_
  refine va_slen hx hb hX hbl hbA hS dL_law_20 ?_
  refine lv_topi (fun x9 ex9 => ?_)
  obtain rfl : x9 = 6 := ex9.trans (by decide)
  refine lv_bipush (v := 6) hx hb dL_law_21 (by decide) ?_
  refine lv_isub hx hb dL_law_23 ?_
  refine lv_topi (fun x10 ex10 => ?_)
  obtain rfl : x10 = 0 := ex10.trans (by decide)
  refine lv_icmp_gt (tgt := 894) hx hb dL_law_24 (by decide) (fun _ => ?_) (fun zc => absurd zc (by decide))
  refine lv_iconst (v := 1) hx hb dL_law_894 (by decide) ?_
  refine va_forget (fun q hq => by have := hS.2.2 q hq; rw [hAe] at this; exact this) ?_
  refine W.widen (k := 600000) (n := 7302250) (Nat.le_of_ble_eq_true rfl) (Nat.le_of_ble_eq_true rfl) ?_
  exact lw_ret hx hb hr hlocks dL_law_895

set_option maxHeartbeats 4000000 in
set_option maxRecDepth 100000 in
theorem lc_count {p : Program} {e : Env} {s : State} {m : MethodId} {below : List Frame} {meth : Method} {c : Code} (l : Launch) {b : Nat} {xs : Nat → Int32} (C0 : lw_At p s m meth c b 6 xs) (dC : Nat → ClassId) (dI : Nat → Nat → Nat) (cB cI cJ cZ cQ : ClassId) (hK : va_K (dC, dI) vwCl (zTY cB cI cJ cZ cQ) s) (hO : zAO s) (A : Nat → Prop) (hAe : A = fun q : Nat => s.heap.size ≤ q) (aHh aRah aSh aFh aShh aXh aTh aMm qLem : Nat) (fLem : Nat → Int32) (fsaHh : List Value) (fsaRah : List Value) (fsaSh : List Value) (fsaFh : List Value) (fsaShh : List Value) (fsaXh : List Value) (fsaTh : List Value) (fsaMm : List Value) (hlaHh : fsaHh.length = 13) (haH_0h : fsaHh[0]? = some (.ref aTh)) (haH_3h : fsaHh[3]? = some (.ref aRah)) (haH_4h : fsaHh[4]? = some (.ref aSh)) (haH_5h : fsaHh[5]? = some (.ref aFh)) (haH_6h : fsaHh[6]? = some (.ref aShh)) (haH_12h : fsaHh[12]? = some (.int 0)) (hlaRah : fsaRah.length = 8) (haRa_6h : fsaRah[6]? = some (.int 1)) (haRa_7h : fsaRah[7]? = some (.int 0)) (hlaSh : fsaSh.length = 3) (haS_2h : fsaSh[2]? = some (.int 0)) (hlaFh : fsaFh.length = 5) (haF_4h : fsaFh[4]? = some (.int 0)) (hlaShh : fsaShh.length = 8) (haSh_6h : fsaShh[6]? = some (.int 0)) (haSh_7h : fsaShh[7]? = some (.ref aXh)) (hlaXh : fsaXh.length = 13) (haX_12h : fsaXh[12]? = some (.int 0)) (hlaTh : fsaTh.length = 2) (haT_1h : fsaTh[1]? = some (.int 0)) (hlaMm : fsaMm.length = 87) (haM_2m : fsaMm[2]? = some (.int 0)) (haM_18m : fsaMm[18]? = some (.int 0)) (haM_20m : fsaMm[20]? = some (.ref qLem)) (haM_43m : fsaMm[43]? = some (.int 1)) (haM_44m : fsaMm[44]? = some (.int 0)) (haM_49m : fsaMm[49]? = some (.int 0)) (haM_52m : fsaMm[52]? = some (.int 0)) (haM_59m : fsaMm[59]? = some (.int 0)) (haM_74m : fsaMm[74]? = some (.int 0)) (hLe0m : fLem (0 : Int32).toNatClampNeg = 0) (s1 s2 s3 s4 s5 : Int32) (es1 : xs (1 : Int32).toNatClampNeg = s1) (es2 : xs (2 : Int32).toNatClampNeg = s2) (es3 : xs (3 : Int32).toNatClampNeg = s3) (es4 : xs (4 : Int32).toNatClampNeg = s4) (es5 : xs (5 : Int32).toNatClampNeg = s5) (H : Heap) (locs : List Loc) (ls : Array Slot) (hP : va_P (dC, dI) vwCl [(aHh, .inr (11, fsaHh)), (aRah, .inr (4, fsaRah)), (aSh, .inr (8, fsaSh)), (aFh, .inr (0, fsaFh)), (aShh, .inr (7, fsaShh)), (aXh, .inr (2, fsaXh)), (aTh, .inr (9, fsaTh)), (aMm, .inr (12, fsaMm)), (qLem, .inl (cI, 2, .inl fLem))] H) (hD : va_D A [(aHh, .inr (11, fsaHh)), (aRah, .inr (4, fsaRah)), (aSh, .inr (8, fsaSh)), (aFh, .inr (0, fsaFh)), (aShh, .inr (7, fsaShh)), (aXh, .inr (2, fsaXh)), (aTh, .inr (9, fsaTh)), (aMm, .inr (12, fsaMm)), (qLem, .inl (cI, 2, .inl fLem))]) (hS : va_S A s.heap H locs) (hl : lv_has ls 4 [(3, .int 0), (2, .ref aMm), (1, .ref aHh), (0, .ref b)]) : W p l e room_1 s m #[Value.ref b] below meth c H locs 139 25402 (lw_Z below #[Value.ref b] s) (F0 m 865 ls []) := by
  obtain ⟨hx, hb, hr, hml, hown0, hts0, hX, hbl, hlocks, hgv⟩ := C0
  have hts := hts0
  have hown : s.vm.findClass RL = some m.cls := hown0
  have hA : ∀ q : Nat, s.heap.size ≤ q → A q := fun q h => by rw [hAe]; exact h
  have hbA : ¬ A b := by rw [hAe]; exact Nat.not_le.mpr hbl
  refine lv_aload_n hx hb dL_law_865 rfl (lv_at hl 2 rfl) ?_
  refine lv_aload_n hx hb dL_law_866 rfl (lv_at hl 3 rfl) ?_
  refine lv_iload_n hx hb dL_law_867 rfl (lv_at hl 0 rfl) ?_
  refine lv_iconst (v := 1) hx hb dL_law_868 (by decide) ?_
  refine lv_iadd hx hb dL_law_869 ?_
  refine lv_topi (fun x1 ex1 => ?_)
  obtain rfl : x1 = 1 := ex1.trans (by decide)
  refine z_sld hx hb hX hbl hbA hS (show ¬ ((1 : Int32) < 0 ∨ 6 ≤ (1 : Int32).toNatClampNeg) from by decide) (v := s1) es1 dL_law_870 ?_
  have hPc : va_P (dC, dI) vwCl (ws_h_count cB cI cJ cZ cQ aHh aRah aSh aFh aShh aXh aTh s1 fsaHh fsaRah fsaSh fsaFh fsaShh fsaXh fsaTh) H := hP.sub [0, 1, 2, 3, 4, 5, 6] rfl
  have hDc := hD.sub (ws' := (ws_h_count cB cI cJ cZ cQ aHh aRah aSh aFh aShh aXh aTh s1 fsaHh fsaRah fsaSh fsaFh fsaShh fsaXh fsaTh)) [0, 1, 2, 3, 4, 5, 6] (by decide) rfl
  have hFc := va_free (wc := (ws_h_count cB cI cJ cZ cQ aHh aRah aSh aFh aShh aXh aTh s1 fsaHh fsaRah fsaSh fsaFh fsaShh fsaXh fsaTh)) hD hS hA [0, 1, 2, 3, 4, 5, 6] rfl
  refine va_calli (va_runV (As := [.int s1]) (rest := []) ⟨hx, hb, hml, hown, hts⟩ (h_count l dC dI cB cI cJ cZ cQ aHh aRah aSh aFh aShh aXh aTh s1 fsaHh fsaRah fsaSh fsaFh fsaShh fsaXh fsaTh H.size hlaHh haH_0h haH_3h haH_4h haH_5h haH_6h haH_12h hlaRah haRa_6h haRa_7h hlaSh haS_2h hlaFh haF_4h hlaShh haSh_6h haSh_7h hlaXh haX_12h hlaTh haT_1h) (cwV 1 hts gL_h_count rfl rfl rfl (by decide +kernel) ⟨Nat.le_of_ble_eq_true rfl, Nat.le_of_ble_eq_true rfl⟩) ⟨zFB, va_recv hK hP (ci := 11) (q0 := 0) rfl rfl, fun U hU hW => zUp hU hW hPc hK hO hDc⟩ rfl rfl hl.1 rfl (lv_room (Nat.le_of_ble_eq_true rfl)) dL_law_871 ⟨Nat.le_of_ble_eq_true rfl, Nat.le_of_ble_eq_true rfl⟩) hS (fun q _ h => hFc q h) hFc (fun r2 u t H1 locs ht hvm hw3 hB hz1 hk1 hS => ?_)
  have hP1 : va_P (dC, dI) vwCl [] H1 := zNilP
  have hD1 : va_D (va_A (ws_h_count cB cI cJ cZ cQ aHh aRah aSh aFh aShh aXh aTh s1 fsaHh fsaRah fsaSh fsaFh fsaShh fsaXh fsaTh) H.size) [] := zNilD
  obtain ⟨hP, hD⟩ := va_join (wr := [(aMm, .inr (12, fsaMm)), (qLem, .inl (cI, 2, .inl fLem))]) (w1 := []) hP hD [0, 1, 2, 3, 4, 5, 6] [7, 8] rfl rfl (by decide) (by decide) hk1 hFc hP1 hD1
  generalize H1 = H at hP hS ⊢
  have hP : va_P (dC, dI) vwCl [(aMm, .inr (12, fsaMm)), (qLem, .inl (cI, 2, .inl fLem))] H := hP
  have hD : va_D A [(aMm, .inr (12, fsaMm)), (qLem, .inl (cI, 2, .inl fLem))] := hD
  refine lv_aload_n hx hb dL_law_874 rfl (lv_at hl 1 rfl) ?_
  refine lv_aload_n hx hb dL_law_875 rfl (lv_at hl 3 rfl) ?_
  refine lv_iload_n hx hb dL_law_876 rfl (lv_at hl 0 rfl) ?_
  refine lv_iconst (v := 1) hx hb dL_law_877 (by decide) ?_
  refine lv_iadd hx hb dL_law_878 ?_
  refine lv_topi (fun x4 ex4 => ?_)
  obtain rfl : x4 = 1 := ex4.trans (by decide)
  refine z_sld hx hb hX hbl hbA hS (show ¬ ((1 : Int32) < 0 ∨ 6 ≤ (1 : Int32).toNatClampNeg) from by decide) (v := s1) es1 dL_law_879 ?_
  have hPc : va_P (dC, dI) vwCl (ws_m_count cB cI cJ cZ cQ aMm qLem s1 fLem fsaMm) H := hP.sub [0, 1] rfl
  have hDc := hD.sub (ws' := (ws_m_count cB cI cJ cZ cQ aMm qLem s1 fLem fsaMm)) [0, 1] (by decide) rfl
  have hFc := va_free (wc := (ws_m_count cB cI cJ cZ cQ aMm qLem s1 fLem fsaMm)) hD hS hA [0, 1] rfl
  refine va_calli (va_runV (As := [.int s1]) (rest := [.int r2]) ⟨hx, hb, hml, hown, hts⟩ (m_count l dC dI cB cI cJ cZ cQ aMm qLem s1 fLem fsaMm H.size hLe0m hlaMm haM_2m haM_18m haM_20m haM_43m haM_44m haM_49m haM_52m haM_59m haM_74m) (cwV 1 hts gL_m_count rfl rfl rfl (by decide +kernel) ⟨Nat.le_of_ble_eq_true rfl, Nat.le_of_ble_eq_true rfl⟩) ⟨zFB, va_recv hK hP (ci := 12) (q0 := 0) rfl rfl, fun U hU hW => zUp hU hW hPc hK hO hDc⟩ rfl rfl hl.1 rfl (lv_room (Nat.le_of_ble_eq_true rfl)) dL_law_880 ⟨Nat.le_of_ble_eq_true rfl, Nat.le_of_ble_eq_true rfl⟩) hS (fun q _ h => hFc q h) hFc (fun r5 u t H1 locs ht hvm hw6 hB hz1 hk1 hS => ?_)
  have hP1 : va_P (dC, dI) vwCl [] H1 := zNilP
  have hD1 : va_D (va_A (ws_m_count cB cI cJ cZ cQ aMm qLem s1 fLem fsaMm) H.size) [] := zNilD
  obtain ⟨hP, hD⟩ := va_join (wr := []) (w1 := []) hP hD [0, 1] [] rfl rfl (by decide) (by decide) hk1 hFc hP1 hD1
  generalize H1 = H at hP hS ⊢
  have hP : va_P (dC, dI) vwCl [] H := hP
  have hD : va_D A [] := hD
  refine lv_icmp_eq (tgt := 888) hx hb dL_law_883 (by decide) (fun _ => ?_) (fun zc => absurd (hw3.trans hw6.symm) zc)
  refine lv_iinc (v := 6) (lv' := [(3, .int 6), (2, .ref aMm), (1, .ref aHh), (0, .ref b)]) hx hb dL_law_888 hl (k := 0) rfl (by decide) (by decide) rfl (fun ls hl => ?_)
  refine lv_goto (tgt := 18) hx hb dL_law_891 (by decide) ?_
  refine lv_iload_n hx hb dL_law_18 rfl (lv_at hl 0 rfl) ?_
  refine lv_aload_n hx hb dL_law_19 rfl (lv_at hl 3 rfl) ?_
  refine va_slen hx hb hX hbl hbA hS dL_law_20 ?_
  refine lv_topi (fun x7 ex7 => ?_)
  obtain rfl : x7 = 6 := ex7.trans (by decide)
  refine lv_bipush (v := 6) hx hb dL_law_21 (by decide) ?_
  refine lv_isub hx hb dL_law_23 ?_
  refine lv_topi (fun x8 ex8 => ?_)
  obtain rfl : x8 = 0 := ex8.trans (by decide)
  refine lv_icmp_gt (tgt := 894) hx hb dL_law_24 (by decide) (fun _ => ?_) (fun zc => absurd zc (by decide))
  refine lv_iconst (v := 1) hx hb dL_law_894 (by decide) ?_
  refine va_forget (fun q hq => by have := hS.2.2 q hq; rw [hAe] at this; exact this) ?_
  refine W.widen (k := 600000) (n := 7302250) (Nat.le_of_ble_eq_true rfl) (Nat.le_of_ble_eq_true rfl) ?_
  exact lw_ret hx hb hr hlocks dL_law_895
