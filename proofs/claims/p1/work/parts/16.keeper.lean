def zs_c_prepare : List Cond := .code yX1_prepare cX1_prepare 3 none :: (([.fieldLink RX1 45 "LanternHouse$Keeper" "rails" "LLanternHouse$Rails;", .fieldLink RX1 41 "LanternHouse$Keeper" "facts" "LLanternHouse$Facts;", .fieldLink RX1 15 "LanternHouse$Keeper" "arrivals" "[[I", .fieldLink RX1 33 "LanternHouse$Keeper" "shows" "LLanternHouse$Shows;", .fieldLink RX1 57 "LanternHouse$Shows" "size" "I", .methodLink RX1 49 yX4_learn, .instanceMethod yX4_learn, .selects RX4 yX4_learn yX4_learn, .initialized RX4, .methodLink RX1 53 yX4_spread, .instanceMethod yX4_spread, .selects RX4 yX4_spread yX4_spread] : List Cond) ++ (zs_c_learn ++ (zs_c_spread ++ (wsX10 ++ (wsX70 ++ [])))))
theorem gd_c_prepare : (zs_c_prepare).all goodWord = true := by decide +kernel
theorem in_c_prepare_1 : ∀ w ∈ wsX10, w ∈ zs_c_prepare := fun w h => List.mem_cons_of_mem _ (List.mem_append_right _ (List.mem_append_right _ (List.mem_append_right _ (List.mem_append_left _ h))))
theorem in_c_prepare_7 : ∀ w ∈ wsX70, w ∈ zs_c_prepare := fun w h => List.mem_cons_of_mem _ (List.mem_append_right _ (List.mem_append_right _ (List.mem_append_right _ (List.mem_append_right _ (List.mem_append_left _ h)))))
theorem g_c_prepare_c_learn_49 : GoodIn zs_c_prepare (wsV RX1 49 RX4 yX4_learn zs_c_learn) := goodIn_app (goodIn_of _ (by decide +kernel)) (goodIn_sub (fun w h => List.mem_cons_of_mem _ (List.mem_append_right _ (List.mem_append_left _ h))) gd_c_learn)
theorem g_c_prepare_c_spread_53 : GoodIn zs_c_prepare (wsV RX1 53 RX4 yX4_spread zs_c_spread) := goodIn_app (goodIn_of _ (by decide +kernel)) (goodIn_sub (fun w h => List.mem_cons_of_mem _ (List.mem_append_right _ (List.mem_append_right _ (List.mem_append_left _ h)))) gd_c_spread)
abbrev ws_c_prepare (cB cI cJ cZ cQ : ClassId) (aK aRa qId qA q8 aSh aF : Nat) (fId : Nat → Int64) (fQ : Nat → Option Nat) (f8 : Nat → Int32) (fsaK : List Value) (fsaRa : List Value) (fsaSh : List Value) : va_W := [(aK, .inr (1, fsaK)), (aRa, .inr (4, fsaRa)), (qId, .inl (cJ, 16, .inr (.inl fId))), (qA, .inl (cQ, 9, .inr (.inr (.inr (.inr fQ))))), (q8, .inl (cI, 6, .inl f8)), (aSh, .inr (7, fsaSh))]
set_option maxHeartbeats 4000000 in
set_option maxRecDepth 100000 in
theorem c_prepare (l : Launch) (dC : Nat → ClassId) (dI : Nat → Nat → Nat) (cB cI cJ cZ cQ : ClassId) (aK aRa qId qA q8 aSh aF : Nat) (fId : Nat → Int64) (fQ : Nat → Option Nat) (f8 : Nat → Int32) (fsaK : List Value) (fsaRa : List Value) (fsaSh : List Value) (sz : Nat) (hQ8 : fQ (8 : Int32).toNatClampNeg = (some q8)) (hlaK : fsaK.length = 8) (haK_0 : fsaK[0]? = some (.ref aSh)) (haK_2 : fsaK[2]? = some (.ref aF)) (haK_3 : fsaK[3]? = some (.ref aRa)) (haK_4 : fsaK[4]? = some (.ref qA)) (hlaRa : fsaRa.length = 8) (haRa_4 : fsaRa[4]? = some (.ref qId)) (haRa_7 : fsaRa[7]? = some (.int 0)) (hlaSh : fsaSh.length = 8) (haSh_6 : fsaSh[6]? = some (.int 0)) : Met l yX1_prepare zs_c_prepare ({ frames := 2, cells := 0, slots := 0, locals := 53 } : Room) (zPc [.ref aK, .int 0] (dC, dI) (zTY cB cI cJ cZ cQ) (ws_c_prepare cB cI cJ cZ cQ aK aRa qId qA q8 aSh aF fId fQ f8 fsaK fsaRa fsaSh) sz) (va_Qv (fun (_ : Unit) => True) (fun (_ : Unit) (t : State) => ∃ (gsaK : List Value), ∃ (gsaSh : List Value), gsaK.length = 8 ∧ (∀ j : Nat, ¬ j ∈ ([] : List Nat) → gsaK[j]? = fsaK[j]?) ∧ gsaSh.length = 8 ∧ (∀ j : Nat, ¬ j ∈ ([] : List Nat) → gsaSh[j]? = fsaSh[j]?) ∧ va_P (dC, dI) vwCl [(aK, .inr (1, gsaK)), (aSh, .inr (7, gsaSh))] t.heap ∧ va_D (va_A (ws_c_prepare cB cI cJ cZ cQ aK aRa qId qA q8 aSh aF fId fQ f8 fsaK fsaRa fsaSh) sz) [(aK, .inr (1, gsaK)), (aSh, .inr (7, gsaSh))]) (va_A (ws_c_prepare cB cI cJ cZ cQ aK aRa qId qA q8 aSh aF fId fQ f8 fsaK fsaRa fsaSh) sz)) 0 0 (va_A (ws_c_prepare cB cI cJ cZ cQ aK aRa qId qA q8 aSh aF fId fQ f8 fsaK fsaRa fsaSh) sz) := by
  refine Met.ofW (cc := cX1_prepare) (maxL := 3) (ret := none) (by decide) rfl ?_
  intro p e s m args below meth c s₁ B hml hv
  obtain ⟨rfl, hsz, hP0, hK, hO, hD0⟩ := hv
  have hx := B.exec
  have hb := B.bytes
  have hr := B.returns
  have hts := atoms_spec (ws := zs_c_prepare) B.pre
  have hown : s.vm.findClass RX1 = some m.cls := findClass_of_methodNamed B.named
  have hlocks := B.notSynchronized
  subst hsz
  have hD8 := hD0.self (sz := s.heap.size)
  generalize hAe : va_A (ws_c_prepare cB cI cJ cZ cQ aK aRa qId qA q8 aSh aF fId fQ f8 fsaK fsaRa fsaSh) s.heap.size = A at hD8 ⊢
  have hA : ∀ q : Nat, s.heap.size ≤ q → A q := fun q h => by rw [← hAe]; exact Or.inr h
  have hS : va_S A s.heap s.heap [] := va_S.rf
  have hP : va_P (dC, dI) vwCl [(aK, .inr (1, fsaK)), (aRa, .inr (4, fsaRa)), (qId, .inl (cJ, 16, .inr (.inl fId))), (qA, .inl (cQ, 9, .inr (.inr (.inr (.inr fQ))))), (q8, .inl (cI, 6, .inl f8)), (aSh, .inr (7, fsaSh))] s.heap := hP0
  have hD : va_D A [(aK, .inr (1, fsaK)), (aRa, .inr (4, fsaRa)), (qId, .inl (cJ, 16, .inr (.inl fId))), (qA, .inl (cQ, 9, .inr (.inr (.inr (.inr fQ))))), (q8, .inl (cI, 6, .inl f8)), (aSh, .inr (7, fsaSh))] := hD8
  have hl := lv_entry ([.ref aK, .int 0]) (n := 3) (Nat.le_of_ble_eq_true rfl)
  rw [lg_entry_eq]
  generalize (lg_sl ([.ref aK, .int 0]) ++ List.replicate (3 - (lg_sl ([.ref aK, .int 0])).length) Slot.unset).toArray = ls at hl ⊢
  have hl : lv_has ls 3 [(0, .ref aK), (1, .int 0)] := hl
  clear hP0 hD8 hD0
  refine zH0 (fun H hP hS => ?_) hP hS
  refine lv_aload_n hx hb dX1_prepare_0 rfl (lv_at hl 0 rfl) ?_
  refine va_get (D := (dC, dI)) (ci := 1) (v := .ref aRa) (C := RX1) (T := TX1) (N := 8) hx hb hts in_c_prepare_1 hown hK hP 0 rfl rfl 3 (by decide) (hts (.fieldLink RX1 45 "LanternHouse$Keeper" "rails" "LLanternHouse$Rails;") (by decide +kernel)) (fun _ h9 => h9) haK_3 dX1_prepare_1 ?_
  refine lv_aload_n hx hb dX1_prepare_4 rfl (lv_at hl 0 rfl) ?_
  refine va_get (D := (dC, dI)) (ci := 1) (v := .ref aF) (C := RX1) (T := TX1) (N := 8) hx hb hts in_c_prepare_1 hown hK hP 0 rfl rfl 2 (by decide) (hts (.fieldLink RX1 41 "LanternHouse$Keeper" "facts" "LLanternHouse$Facts;") (by decide +kernel)) (fun _ h9 => h9) haK_2 dX1_prepare_5 ?_
  refine lv_iload_n hx hb dX1_prepare_8 rfl (lv_at hl 1 rfl) ?_
  have hPc : va_P (dC, dI) vwCl (ws_c_learn cB cI cJ cZ cQ aRa qId aF fId fsaRa) H := hP.sub [1, 2] rfl
  have hDc := hD.sub (ws' := (ws_c_learn cB cI cJ cZ cQ aRa qId aF fId fsaRa)) [1, 2] (by decide) rfl
  have hFc := va_free (wc := (ws_c_learn cB cI cJ cZ cQ aRa qId aF fId fsaRa)) hD hS hA [1, 2] rfl
  refine va_callv (va_runV (As := [.ref aF, .int 0]) (rest := []) ⟨hx, hb, hml, hown, hts⟩ (c_learn l dC dI cB cI cJ cZ cQ aRa qId aF fId fsaRa H.size hlaRa haRa_4) (cwV 2 hts g_c_prepare_c_learn_49 rfl rfl rfl (by decide +kernel) ⟨Nat.le_of_ble_eq_true rfl, Nat.le_of_ble_eq_true rfl⟩) ⟨zFB, va_recv hK hP (ci := 4) (q0 := 1) rfl rfl, fun U hU hW => zUp hU hW hPc hK hO hDc⟩ rfl rfl hl.1 rfl (lv_room (Nat.le_of_ble_eq_true rfl)) dX1_prepare_9 ⟨Nat.le_of_ble_eq_true rfl, Nat.le_of_ble_eq_true rfl⟩) hS (fun q _ h => hFc q h) hFc (fun u t H1 locs ht hvm hw2 hB hz1 hk1 hS => ?_)
  obtain ⟨fId23, gs4, hgl5, hgf6, hP1, hD1⟩ := hB
  rw [ht] at hP1
  obtain ⟨hP, hD⟩ := va_join (wr := [(aK, .inr (1, fsaK)), (qA, .inl (cQ, 9, .inr (.inr (.inr (.inr fQ))))), (q8, .inl (cI, 6, .inl f8)), (aSh, .inr (7, fsaSh))]) (w1 := [(aRa, .inr (4, gs4)), (qId, .inl (cJ, 16, .inr (.inl fId23)))]) hP hD [1, 2] [0, 3, 4, 5] rfl rfl (by decide) (by decide) hk1 hFc hP1 hD1
  generalize H1 = H at hP hS ⊢
  have hP : va_P (dC, dI) vwCl [(aK, .inr (1, fsaK)), (qA, .inl (cQ, 9, .inr (.inr (.inr (.inr fQ))))), (q8, .inl (cI, 6, .inl f8)), (aSh, .inr (7, fsaSh)), (aRa, .inr (4, gs4)), (qId, .inl (cJ, 16, .inr (.inl fId23)))] H := hP
  have hD : va_D A [(aK, .inr (1, fsaK)), (qA, .inl (cQ, 9, .inr (.inr (.inr (.inr fQ))))), (q8, .inl (cI, 6, .inl f8)), (aSh, .inr (7, fsaSh)), (aRa, .inr (4, gs4)), (qId, .inl (cJ, 16, .inr (.inl fId23)))] := hD
  refine lv_aload_n hx hb dX1_prepare_12 rfl (lv_at hl 0 rfl) ?_
  refine va_get (D := (dC, dI)) (ci := 1) (v := .ref aRa) (C := RX1) (T := TX1) (N := 8) hx hb hts in_c_prepare_1 hown hK hP 0 rfl rfl 3 (by decide) (hts (.fieldLink RX1 45 "LanternHouse$Keeper" "rails" "LLanternHouse$Rails;") (by decide +kernel)) (fun _ h9 => h9) haK_3 dX1_prepare_13 ?_
  refine lv_iconst (v := 0) hx hb dX1_prepare_16 (by decide) ?_
  refine lv_iconst (v := 0) hx hb dX1_prepare_17 (by decide) ?_
  refine lv_aload_n hx hb dX1_prepare_18 rfl (lv_at hl 0 rfl) ?_
  refine va_get (D := (dC, dI)) (ci := 1) (v := .ref qA) (C := RX1) (T := TX1) (N := 8) hx hb hts in_c_prepare_1 hown hK hP 0 rfl rfl 4 (by decide) (hts (.fieldLink RX1 15 "LanternHouse$Keeper" "arrivals" "[[I") (by decide +kernel)) (fun _ h9 => h9) haK_4 dX1_prepare_19 ?_
  refine lv_bipush (v := 8) hx hb dX1_prepare_22 (by decide) ?_
  refine z_aald hx hb hK hP 1 4 rfl rfl (show ¬ ((8 : Int32) < 0 ∨ 9 ≤ (8 : Int32).toNatClampNeg) from by decide) (v := (some q8)) hQ8 dX1_prepare_24 ?_
  refine W.eq (g2 := F0 m 25 ls (.ref q8 :: [.int 0, .int 0, .ref aRa])) rfl ?_
  have hPc : va_P (dC, dI) vwCl (ws_c_spread cB cI cJ cZ cQ aRa q8 0 f8 gs4) H := hP.sub [4, 2] rfl
  have hDc := hD.sub (ws' := (ws_c_spread cB cI cJ cZ cQ aRa q8 0 f8 gs4)) [4, 2] (by decide) rfl
  have hFc := va_free (wc := (ws_c_spread cB cI cJ cZ cQ aRa q8 0 f8 gs4)) hD hS hA [4, 2] rfl
  refine va_callv (va_runV (As := [.int 0, .int 0, .ref q8]) (rest := []) ⟨hx, hb, hml, hown, hts⟩ (c_spread l dC dI cB cI cJ cZ cQ aRa q8 0 f8 gs4 H.size hgl5 ((hgf6 7 (by decide)).trans haRa_7)) (cwV 3 hts g_c_prepare_c_spread_53 rfl rfl rfl (by decide +kernel) ⟨Nat.le_of_ble_eq_true rfl, Nat.le_of_ble_eq_true rfl⟩) ⟨zFB, va_recv hK hP (ci := 4) (q0 := 4) rfl rfl, fun U hU hW => zUp hU hW hPc hK hO hDc⟩ rfl rfl hl.1 rfl (lv_room (Nat.le_of_ble_eq_true rfl)) dX1_prepare_25 ⟨Nat.le_of_ble_eq_true rfl, Nat.le_of_ble_eq_true rfl⟩) hS (fun q _ h => hFc q h) hFc (fun u t H1 locs ht hvm hw8 hB hz1 hk1 hS => ?_)
  obtain ⟨fR29, gs10, hgl11, hgf12, hk13, hP1, hD1⟩ := hB
  rw [ht] at hP1
  obtain ⟨hP, hD⟩ := va_join (wr := [(aK, .inr (1, fsaK)), (qA, .inl (cQ, 9, .inr (.inr (.inr (.inr fQ))))), (aSh, .inr (7, fsaSh)), (qId, .inl (cJ, 16, .inr (.inl fId23)))]) (w1 := [(aRa, .inr (4, gs10)), (q8, .inl (cI, 6, .inl fR29))]) hP hD [4, 2] [0, 1, 3, 5] rfl rfl (by decide) (by decide) hk1 hFc hP1 hD1
  generalize H1 = H at hP hS ⊢
  have hP : va_P (dC, dI) vwCl [(aK, .inr (1, fsaK)), (qA, .inl (cQ, 9, .inr (.inr (.inr (.inr fQ))))), (aSh, .inr (7, fsaSh)), (qId, .inl (cJ, 16, .inr (.inl fId23))), (aRa, .inr (4, gs10)), (q8, .inl (cI, 6, .inl fR29))] H := hP
  have hD : va_D A [(aK, .inr (1, fsaK)), (qA, .inl (cQ, 9, .inr (.inr (.inr (.inr fQ))))), (aSh, .inr (7, fsaSh)), (qId, .inl (cJ, 16, .inr (.inl fId23))), (aRa, .inr (4, gs10)), (q8, .inl (cI, 6, .inl fR29))] := hD
  refine lv_iconst (v := 0) hx hb dX1_prepare_28 (by decide) ?_
  refine lv_istore_n (lv' := [(2, .int 0), (0, .ref aK), (1, .int 0)]) hx hb dX1_prepare_29 rfl hl (by decide) rfl (fun ls hl => ?_)
  refine lv_iload_n hx hb dX1_prepare_30 rfl (lv_at hl 0 rfl) ?_
  refine lv_aload_n hx hb dX1_prepare_31 rfl (lv_at hl 1 rfl) ?_
  refine va_get (D := (dC, dI)) (ci := 1) (v := .ref aSh) (C := RX1) (T := TX1) (N := 8) hx hb hts in_c_prepare_1 hown hK hP 0 rfl rfl 0 (by decide) (hts (.fieldLink RX1 33 "LanternHouse$Keeper" "shows" "LLanternHouse$Shows;") (by decide +kernel)) (fun _ h9 => h9) haK_0 dX1_prepare_32 ?_
  refine va_get (D := (dC, dI)) (ci := 7) (v := .int 0) (C := RX7) (T := TX7) (N := 8) hx hb hts in_c_prepare_7 hown hK hP 2 rfl rfl 6 (by decide) (hts (.fieldLink RX1 57 "LanternHouse$Shows" "size" "I") (by decide +kernel)) (fun _ h9 => h9) haSh_6 dX1_prepare_35 ?_
  refine lv_icmp_ge (tgt := 104) hx hb dX1_prepare_38 (by decide) (fun _ => ?_) (fun zc => absurd zc (by decide))
  have hP9 : va_P (dC, dI) vwCl [(aK, .inr (1, fsaK)), (aSh, .inr (7, fsaSh))] H := hP.sub [0, 2] rfl
  have hD9 : va_D A [(aK, .inr (1, fsaK)), (aSh, .inr (7, fsaSh))] := hD.sub [0, 2] (by decide) rfl
  exact W.vret hx hb hr (fun t ht hW => ⟨⟨(), rfl, trivial, ⟨fsaK, fsaSh, hlaK, (fun j hj => rfl), hlaSh, (fun j hj => rfl), by rw [ht]; exact hP9, hD9⟩⟩, hS.F ht⟩) hS.2.2 dX1_prepare_104

def zs_c_keep : List Cond := .code yX1_keep cX1_keep 5 (some .boolean) :: (([.fieldLink RX1 33 "LanternHouse$Keeper" "shows" "LLanternHouse$Shows;", .fieldLink RX1 26 "LanternHouse$Keeper" "freeAt" "[I", .fieldLink RX1 57 "LanternHouse$Shows" "size" "I", .methodLink RX1 76 yX7_worthOf, .instanceMethod yX7_worthOf, .selects RX7 yX7_worthOf yX7_worthOf, .initialized RX7, .methodLink RX1 79 yX3_begin, .instanceMethod yX3_begin, .selects RX3 yX3_begin yX3_begin, .initialized RX3, .methodLink RX1 85 yJ7_fill_53178, .static yJ7_fill_53178, .initialized RJ7] : List Cond) ++ (zs_c_worthOf ++ (zs_c_pbegin ++ (zs_c_fillI ++ (wsX10 ++ (wsX70 ++ []))))))
theorem gd_c_keep : (zs_c_keep).all goodWord = true := by decide +kernel
theorem in_c_keep_1 : ∀ w ∈ wsX10, w ∈ zs_c_keep := fun w h => List.mem_cons_of_mem _ (List.mem_append_right _ (List.mem_append_right _ (List.mem_append_right _ (List.mem_append_right _ (List.mem_append_left _ h)))))
theorem in_c_keep_7 : ∀ w ∈ wsX70, w ∈ zs_c_keep := fun w h => List.mem_cons_of_mem _ (List.mem_append_right _ (List.mem_append_right _ (List.mem_append_right _ (List.mem_append_right _ (List.mem_append_right _ (List.mem_append_left _ h))))))
theorem g_c_keep_c_worthOf_76 : GoodIn zs_c_keep (wsV RX1 76 RX7 yX7_worthOf zs_c_worthOf) := goodIn_app (goodIn_of _ (by decide +kernel)) (goodIn_sub (fun w h => List.mem_cons_of_mem _ (List.mem_append_right _ (List.mem_append_left _ h))) gd_c_worthOf)
theorem g_c_keep_c_pbegin_79 : GoodIn zs_c_keep (wsV RX1 79 RX3 yX3_begin zs_c_pbegin) := goodIn_app (goodIn_of _ (by decide +kernel)) (goodIn_sub (fun w h => List.mem_cons_of_mem _ (List.mem_append_right _ (List.mem_append_right _ (List.mem_append_left _ h)))) gd_c_pbegin)
theorem g_c_keep_c_fillI_85 : GoodIn zs_c_keep (va_wsS RX1 85 yJ7_fill_53178 zs_c_fillI) := goodIn_app (goodIn_of _ (by decide +kernel)) (goodIn_sub (fun w h => List.mem_cons_of_mem _ (List.mem_append_right _ (List.mem_append_right _ (List.mem_append_right _ (List.mem_append_left _ h))))) gd_c_fillI)
abbrev ws_c_keep (cB cI cJ cZ cQ : ClassId) (aK aSh qFr aPl : Nat) (fFr : Nat → Int32) (fsaK : List Value) (fsaSh : List Value) (fsaPl : List Value) : va_W := [(aK, .inr (1, fsaK)), (aSh, .inr (7, fsaSh)), (qFr, .inl (cI, 20, .inl fFr)), (aPl, .inr (3, fsaPl))]
set_option maxHeartbeats 4000000 in
set_option maxRecDepth 100000 in
theorem c_keep (l : Launch) (dC : Nat → ClassId) (dI : Nat → Nat → Nat) (cB cI cJ cZ cQ : ClassId) (aK aSh qFr aPl : Nat) (fFr : Nat → Int32) (fsaK : List Value) (fsaSh : List Value) (fsaPl : List Value) (sz : Nat) (hlaK : fsaK.length = 8) (haK_0 : fsaK[0]? = some (.ref aSh)) (haK_6 : fsaK[6]? = some (.ref qFr)) (hlaSh : fsaSh.length = 8) (haSh_6 : fsaSh[6]? = some (.int 0)) (hlaPl : fsaPl.length = 8) : Met l yX1_keep zs_c_keep ({ frames := 1, cells := 0, slots := 0, locals := 23 } : Room) (zPc [.ref aK, .int 0, .ref aPl] (dC, dI) (zTY cB cI cJ cZ cQ) (ws_c_keep cB cI cJ cZ cQ aK aSh qFr aPl fFr fsaK fsaSh fsaPl) sz) (va_Qi (fun (zr : Int32) (_ : Unit) => zr = 1) (fun (_ : Unit) (t : State) => ∃ (gsaSh : List Value), ∃ (gsaPl : List Value), gsaSh.length = 8 ∧ (∀ j : Nat, ¬ j ∈ ([] : List Nat) → gsaSh[j]? = fsaSh[j]?) ∧ gsaPl.length = 8 ∧ (∀ j : Nat, ¬ j ∈ ([3, 4, 5, 6, 7] : List Nat) → gsaPl[j]? = fsaPl[j]?) ∧ gsaPl[3]? = some (.int 0) ∧ gsaPl[4]? = some (.int 0) ∧ gsaPl[5]? = some (.int 0) ∧ gsaPl[6]? = some (.int 0) ∧ gsaPl[7]? = some (.int 0) ∧ va_P (dC, dI) vwCl [(aSh, .inr (7, gsaSh)), (aPl, .inr (3, gsaPl))] t.heap ∧ va_D (va_A (ws_c_keep cB cI cJ cZ cQ aK aSh qFr aPl fFr fsaK fsaSh fsaPl) sz) [(aSh, .inr (7, gsaSh)), (aPl, .inr (3, gsaPl))]) (va_A (ws_c_keep cB cI cJ cZ cQ aK aSh qFr aPl fFr fsaK fsaSh fsaPl) sz)) 0 0 (va_A (ws_c_keep cB cI cJ cZ cQ aK aSh qFr aPl fFr fsaK fsaSh fsaPl) sz) := by
  refine Met.ofW (cc := cX1_keep) (maxL := 5) (ret := (some .boolean)) (by decide) rfl ?_
  intro p e s m args below meth c s₁ B hml hv
  obtain ⟨rfl, hsz, hP0, hK, hO, hD0⟩ := hv
  have hx := B.exec
  have hb := B.bytes
  have hr := B.returns
  have hts := atoms_spec (ws := zs_c_keep) B.pre
  have hown : s.vm.findClass RX1 = some m.cls := findClass_of_methodNamed B.named
  have hlocks := B.notSynchronized
  subst hsz
  have hD8 := hD0.self (sz := s.heap.size)
  generalize hAe : va_A (ws_c_keep cB cI cJ cZ cQ aK aSh qFr aPl fFr fsaK fsaSh fsaPl) s.heap.size = A at hD8 ⊢
  have hA : ∀ q : Nat, s.heap.size ≤ q → A q := fun q h => by rw [← hAe]; exact Or.inr h
  have hS : va_S A s.heap s.heap [] := va_S.rf
  have hP : va_P (dC, dI) vwCl [(aK, .inr (1, fsaK)), (aSh, .inr (7, fsaSh)), (qFr, .inl (cI, 20, .inl fFr)), (aPl, .inr (3, fsaPl))] s.heap := hP0
  have hD : va_D A [(aK, .inr (1, fsaK)), (aSh, .inr (7, fsaSh)), (qFr, .inl (cI, 20, .inl fFr)), (aPl, .inr (3, fsaPl))] := hD8
  have hl := lv_entry ([.ref aK, .int 0, .ref aPl]) (n := 5) (Nat.le_of_ble_eq_true rfl)
  rw [lg_entry_eq]
  generalize (lg_sl ([.ref aK, .int 0, .ref aPl]) ++ List.replicate (5 - (lg_sl ([.ref aK, .int 0, .ref aPl])).length) Slot.unset).toArray = ls at hl ⊢
  have hl : lv_has ls 5 [(0, .ref aK), (1, .int 0), (2, .ref aPl)] := hl
  clear hP0 hD8 hD0
  refine zH0 (fun H hP hS => ?_) hP hS
  refine lv_aload_n hx hb dX1_keep_0 rfl (lv_at hl 2 rfl) ?_
  refine lv_iload_n hx hb dX1_keep_1 rfl (lv_at hl 1 rfl) ?_
  refine lv_aload_n hx hb dX1_keep_2 rfl (lv_at hl 0 rfl) ?_
  refine va_get (D := (dC, dI)) (ci := 1) (v := .ref aSh) (C := RX1) (T := TX1) (N := 8) hx hb hts in_c_keep_1 hown hK hP 0 rfl rfl 0 (by decide) (hts (.fieldLink RX1 33 "LanternHouse$Keeper" "shows" "LLanternHouse$Shows;") (by decide +kernel)) (fun _ h9 => h9) haK_0 dX1_keep_3 ?_
  refine lv_iload_n hx hb dX1_keep_6 rfl (lv_at hl 1 rfl) ?_
  have hPc : va_P (dC, dI) vwCl (ws_c_worthOf cB cI cJ cZ cQ aSh fsaSh) H := hP.sub [1] rfl
  have hDc := hD.sub (ws' := (ws_c_worthOf cB cI cJ cZ cQ aSh fsaSh)) [1] (by decide) rfl
  have hFc := va_free (wc := (ws_c_worthOf cB cI cJ cZ cQ aSh fsaSh)) hD hS hA [1] rfl
  refine va_calli (va_runV (As := [.int 0]) (rest := [.int 0, .ref aPl]) ⟨hx, hb, hml, hown, hts⟩ (c_worthOf l dC dI cB cI cJ cZ cQ aSh fsaSh H.size hlaSh haSh_6) (cwV 1 hts g_c_keep_c_worthOf_76 rfl rfl rfl (by decide +kernel) ⟨Nat.le_of_ble_eq_true rfl, Nat.le_of_ble_eq_true rfl⟩) ⟨zFB, va_recv hK hP (ci := 7) (q0 := 1) rfl rfl, fun U hU hW => zUp hU hW hPc hK hO hDc⟩ rfl rfl hl.1 rfl (lv_room (Nat.le_of_ble_eq_true rfl)) dX1_keep_7 ⟨Nat.le_of_ble_eq_true rfl, Nat.le_of_ble_eq_true rfl⟩) hS (fun q _ h => hFc q h) hFc (fun r1 u t H1 locs ht hvm hw2 hB hz1 hk1 hS => ?_)
  obtain ⟨gs3, hgl4, hgf5, hP1, hD1⟩ := hB
  rw [ht] at hP1
  obtain ⟨hP, hD⟩ := va_join (wr := [(aK, .inr (1, fsaK)), (qFr, .inl (cI, 20, .inl fFr)), (aPl, .inr (3, fsaPl))]) (w1 := [(aSh, .inr (7, gs3))]) hP hD [1] [0, 2, 3] rfl rfl (by decide) (by decide) hk1 hFc hP1 hD1
  generalize H1 = H at hP hS ⊢
  have hP : va_P (dC, dI) vwCl [(aK, .inr (1, fsaK)), (qFr, .inl (cI, 20, .inl fFr)), (aPl, .inr (3, fsaPl)), (aSh, .inr (7, gs3))] H := hP
  have hD : va_D A [(aK, .inr (1, fsaK)), (qFr, .inl (cI, 20, .inl fFr)), (aPl, .inr (3, fsaPl)), (aSh, .inr (7, gs3))] := hD
  obtain rfl : r1 = 0 := hw2
  have hPc : va_P (dC, dI) vwCl (ws_c_pbegin cB cI cJ cZ cQ aPl fsaPl) H := hP.sub [2] rfl
  have hDc := hD.sub (ws' := (ws_c_pbegin cB cI cJ cZ cQ aPl fsaPl)) [2] (by decide) rfl
  have hFc := va_free (wc := (ws_c_pbegin cB cI cJ cZ cQ aPl fsaPl)) hD hS hA [2] rfl
  refine va_callv (va_runV (As := [.int 0, .int 0]) (rest := []) ⟨hx, hb, hml, hown, hts⟩ (c_pbegin l dC dI cB cI cJ cZ cQ aPl fsaPl H.size hlaPl) (cwV 2 hts g_c_keep_c_pbegin_79 rfl rfl rfl (by decide +kernel) ⟨Nat.le_of_ble_eq_true rfl, Nat.le_of_ble_eq_true rfl⟩) ⟨zFB, va_recv hK hP (ci := 3) (q0 := 2) rfl rfl, fun U hU hW => zUp hU hW hPc hK hO hDc⟩ rfl rfl hl.1 rfl (lv_room (Nat.le_of_ble_eq_true rfl)) dX1_keep_10 ⟨Nat.le_of_ble_eq_true rfl, Nat.le_of_ble_eq_true rfl⟩) hS (fun q _ h => hFc q h) hFc (fun u t H1 locs ht hvm hw7 hB hz1 hk1 hS => ?_)
  obtain ⟨gs8, hgl9, hgf10, hgk11, hgk12, hgk13, hgk14, hgk15, hP1, hD1⟩ := hB
  rw [ht] at hP1
  obtain ⟨hP, hD⟩ := va_join (wr := [(aK, .inr (1, fsaK)), (qFr, .inl (cI, 20, .inl fFr)), (aSh, .inr (7, gs3))]) (w1 := [(aPl, .inr (3, gs8))]) hP hD [2] [0, 1, 3] rfl rfl (by decide) (by decide) hk1 hFc hP1 hD1
  generalize H1 = H at hP hS ⊢
  have hP : va_P (dC, dI) vwCl [(aK, .inr (1, fsaK)), (qFr, .inl (cI, 20, .inl fFr)), (aSh, .inr (7, gs3)), (aPl, .inr (3, gs8))] H := hP
  have hD : va_D A [(aK, .inr (1, fsaK)), (qFr, .inl (cI, 20, .inl fFr)), (aSh, .inr (7, gs3)), (aPl, .inr (3, gs8))] := hD
  refine lv_aload_n hx hb dX1_keep_13 rfl (lv_at hl 0 rfl) ?_
  refine va_get (D := (dC, dI)) (ci := 1) (v := .ref qFr) (C := RX1) (T := TX1) (N := 8) hx hb hts in_c_keep_1 hown hK hP 0 rfl rfl 6 (by decide) (hts (.fieldLink RX1 26 "LanternHouse$Keeper" "freeAt" "[I") (by decide +kernel)) (fun _ h9 => h9) haK_6 dX1_keep_14 ?_
  refine lv_bipush (v := 8) hx hb dX1_keep_17 (by decide) ?_
  have hPc : va_P (dC, dI) vwCl (ws_c_fillI cB cI cJ cZ cQ qFr 20 8 fFr) H := hP.sub [1] rfl
  have hDc := hD.sub (ws' := (ws_c_fillI cB cI cJ cZ cQ qFr 20 8 fFr)) [1] (by decide) rfl
  have hFc := va_free (wc := (ws_c_fillI cB cI cJ cZ cQ qFr 20 8 fFr)) hD hS hA [1] rfl
  refine va_callv (va_runS (As := [.ref qFr, .int 8]) (rest := []) ⟨hx, hb, hml, hown, hts⟩ (c_fillI l dC dI cB cI cJ cZ cQ qFr 20 8 fFr H.size (by first | decide | omega)) (va_cwS 2 hts g_c_keep_c_fillI_85 rfl rfl rfl (by decide +kernel) ⟨Nat.le_of_ble_eq_true rfl, Nat.le_of_ble_eq_true rfl⟩) ⟨zFB, fun U hU hW => zUp hU hW hPc hK hO hDc⟩ rfl rfl hl.1 rfl (lv_room (Nat.le_of_ble_eq_true rfl)) dX1_keep_19 ⟨Nat.le_of_ble_eq_true rfl, Nat.le_of_ble_eq_true rfl⟩) hS (fun q _ h => hFc q h) hFc (fun u t H1 locs ht hvm hw17 hB hz1 hk1 hS => ?_)
  obtain ⟨fA218, hP1, hD1⟩ := hB
  rw [ht] at hP1
  obtain ⟨hP, hD⟩ := va_join (wr := [(aK, .inr (1, fsaK)), (aSh, .inr (7, gs3)), (aPl, .inr (3, gs8))]) (w1 := [(qFr, .inl (cI, 20, .inl fA218))]) hP hD [1] [0, 2, 3] rfl rfl (by decide) (by decide) hk1 hFc hP1 hD1
  generalize H1 = H at hP hS ⊢
  have hP : va_P (dC, dI) vwCl [(aK, .inr (1, fsaK)), (aSh, .inr (7, gs3)), (aPl, .inr (3, gs8)), (qFr, .inl (cI, 20, .inl fA218))] H := hP
  have hD : va_D A [(aK, .inr (1, fsaK)), (aSh, .inr (7, gs3)), (aPl, .inr (3, gs8)), (qFr, .inl (cI, 20, .inl fA218))] := hD
  refine lv_iconst (v := 0) hx hb dX1_keep_22 (by decide) ?_
  refine lv_istore_n (lv' := [(3, .int 0), (0, .ref aK), (1, .int 0), (2, .ref aPl)]) hx hb dX1_keep_23 rfl hl (by decide) rfl (fun ls hl => ?_)
  refine lv_iload_n hx hb dX1_keep_24 rfl (lv_at hl 0 rfl) ?_
  refine lv_aload_n hx hb dX1_keep_25 rfl (lv_at hl 1 rfl) ?_
  refine va_get (D := (dC, dI)) (ci := 1) (v := .ref aSh) (C := RX1) (T := TX1) (N := 8) hx hb hts in_c_keep_1 hown hK hP 0 rfl rfl 0 (by decide) (hts (.fieldLink RX1 33 "LanternHouse$Keeper" "shows" "LLanternHouse$Shows;") (by decide +kernel)) (fun _ h9 => h9) haK_0 dX1_keep_26 ?_
  refine va_get (D := (dC, dI)) (ci := 7) (v := .int 0) (C := RX7) (T := TX7) (N := 8) hx hb hts in_c_keep_7 hown hK hP 1 rfl rfl 6 (by decide) (hts (.fieldLink RX1 57 "LanternHouse$Shows" "size" "I") (by decide +kernel)) (fun _ h9 => h9) ((hgf5 6 (by decide)).trans haSh_6) dX1_keep_29 ?_
  refine lv_icmp_ge (tgt := 73) hx hb dX1_keep_32 (by decide) (fun _ => ?_) (fun zc => absurd zc (by decide))
  refine lv_iconst (v := 1) hx hb dX1_keep_73 (by decide) ?_
  have hP9 : va_P (dC, dI) vwCl [(aSh, .inr (7, gs3)), (aPl, .inr (3, gs8))] H := hP.sub [1, 2] rfl
  have hD9 : va_D A [(aSh, .inr (7, gs3)), (aPl, .inr (3, gs8))] := hD.sub [1, 2] (by decide) rfl
  exact W.zret (v := 1) hx hb hr rfl (fun t ht hW => ⟨⟨1, (), rfl, rfl, ⟨gs3, gs8, hgl4, (fun j hj => ((zfs hgf5 (by decide) hj).trans rfl)), hgl9, (fun j hj => ((zfs hgf10 (by decide) hj).trans rfl)), hgk11, hgk12, hgk13, hgk14, hgk15, by rw [ht]; exact hP9, hD9⟩⟩, hS.F ht⟩) hS.2.2 dX1_keep_74

