set_option maxHeartbeats 4000000 in
set_option maxRecDepth 100000 in
theorem lc_feed {p : Program} {e : Env} {s : State} {m : MethodId} {below : List Frame} {meth : Method} {c : Code} (l : Launch) {b : Nat} {xs : Nat → Int32} (C0 : lw_At p s m meth c b 6 xs) (dC : Nat → ClassId) (dI : Nat → Nat → Nat) (cB cI cJ cZ cQ : ClassId) (hK : va_K (dC, dI) vwCl (zTY cB cI cJ cZ cQ) s) (hO : zAO s) (A : Nat → Prop) (hAe : A = fun q : Nat => s.heap.size ≤ q) (aHh aTh qBh aMm qBm : Nat) (fBh : Nat → Int32) (fBm : Nat → Int32) (fsaHh : List Value) (fsaTh : List Value) (fsaMm : List Value) (hlaHh : fsaHh.length = 13) (haH_0h : fsaHh[0]? = some (.ref aTh)) (hlaTh : fsaTh.length = 2) (haT_0h : fsaTh[0]? = some (.ref qBh)) (haT_1h : fsaTh[1]? = some (.int 0)) (hlaMm : fsaMm.length = 87) (haM_1m : fsaMm[1]? = some (.ref qBm)) (haM_2m : fsaMm[2]? = some (.int 0)) (s1 s2 s3 s4 s5 : Int32) (es1 : xs (1 : Int32).toNatClampNeg = s1) (es2 : xs (2 : Int32).toNatClampNeg = s2) (es3 : xs (3 : Int32).toNatClampNeg = s3) (es4 : xs (4 : Int32).toNatClampNeg = s4) (es5 : xs (5 : Int32).toNatClampNeg = s5) (H : Heap) (locs : List Loc) (ls : Array Slot) (hP : va_P (dC, dI) vwCl [(aHh, .inr (11, fsaHh)), (aTh, .inr (9, fsaTh)), (qBh, .inl (cB, 3000, .inl fBh)), (aMm, .inr (12, fsaMm)), (qBm, .inl (cB, 3000, .inl fBm))] H) (hD : va_D A [(aHh, .inr (11, fsaHh)), (aTh, .inr (9, fsaTh)), (qBh, .inl (cB, 3000, .inl fBh)), (aMm, .inr (12, fsaMm)), (qBm, .inl (cB, 3000, .inl fBm))]) (hS : va_S A s.heap H locs) (hl : lv_has ls 4 [(3, .int 0), (2, .ref aMm), (1, .ref aHh), (0, .ref b)]) : W p l e room_1 s m #[Value.ref b] below meth c H locs 139 25402 (lw_Z below #[Value.ref b] s) (F0 m 136 ls []) := by
  obtain ⟨hx, hb, hr, hml, hown0, hts0, hX, hbl, hlocks, hgv⟩ := C0
  have hts := hts0
  have hown : s.vm.findClass RL = some m.cls := hown0
  have hA : ∀ q : Nat, s.heap.size ≤ q → A q := fun q h => by rw [hAe]; exact h
  have hbA : ¬ A b := by rw [hAe]; exact Nat.not_le.mpr hbl
  refine lv_aload_n hx hb dL_law_136 rfl (lv_at hl 2 rfl) ?_
  refine lv_aload_n hx hb dL_law_137 rfl (lv_at hl 3 rfl) ?_
  refine lv_iload_n hx hb dL_law_138 rfl (lv_at hl 0 rfl) ?_
  refine lv_iconst (v := 1) hx hb dL_law_139 (by decide) ?_
  refine lv_iadd hx hb dL_law_140 ?_
  refine lv_topi (fun x1 ex1 => ?_)
  obtain rfl : x1 = 1 := ex1.trans (by decide)
  refine z_sld hx hb hX hbl hbA hS (show ¬ ((1 : Int32) < 0 ∨ 6 ≤ (1 : Int32).toNatClampNeg) from by decide) (v := s1) es1 dL_law_141 ?_
  refine lv_aload_n hx hb dL_law_142 rfl (lv_at hl 3 rfl) ?_
  refine lv_iload_n hx hb dL_law_143 rfl (lv_at hl 0 rfl) ?_
  refine lv_iconst (v := 2) hx hb dL_law_144 (by decide) ?_
  refine lv_iadd hx hb dL_law_145 ?_
  refine lv_topi (fun x2 ex2 => ?_)
  obtain rfl : x2 = 2 := ex2.trans (by decide)
  refine z_sld hx hb hX hbl hbA hS (show ¬ ((2 : Int32) < 0 ∨ 6 ≤ (2 : Int32).toNatClampNeg) from by decide) (v := s2) es2 dL_law_146 ?_
  refine lv_aload_n hx hb dL_law_147 rfl (lv_at hl 3 rfl) ?_
  refine lv_iload_n hx hb dL_law_148 rfl (lv_at hl 0 rfl) ?_
  refine lv_iconst (v := 3) hx hb dL_law_149 (by decide) ?_
  refine lv_iadd hx hb dL_law_150 ?_
  refine lv_topi (fun x3 ex3 => ?_)
  obtain rfl : x3 = 3 := ex3.trans (by decide)
  refine z_sld hx hb hX hbl hbA hS (show ¬ ((3 : Int32) < 0 ∨ 6 ≤ (3 : Int32).toNatClampNeg) from by decide) (v := s3) es3 dL_law_151 ?_
  refine lv_aload_n hx hb dL_law_152 rfl (lv_at hl 3 rfl) ?_
  refine lv_iload_n hx hb dL_law_153 rfl (lv_at hl 0 rfl) ?_
  refine lv_iconst (v := 4) hx hb dL_law_154 (by decide) ?_
  refine lv_iadd hx hb dL_law_155 ?_
  refine lv_topi (fun x4 ex4 => ?_)
  obtain rfl : x4 = 4 := ex4.trans (by decide)
  refine z_sld hx hb hX hbl hbA hS (show ¬ ((4 : Int32) < 0 ∨ 6 ≤ (4 : Int32).toNatClampNeg) from by decide) (v := s4) es4 dL_law_156 ?_
  refine lv_aload_n hx hb dL_law_157 rfl (lv_at hl 3 rfl) ?_
  refine lv_iload_n hx hb dL_law_158 rfl (lv_at hl 0 rfl) ?_
  refine lv_iconst (v := 5) hx hb dL_law_159 (by decide) ?_
  refine lv_iadd hx hb dL_law_160 ?_
  refine lv_topi (fun x5 ex5 => ?_)
  obtain rfl : x5 = 5 := ex5.trans (by decide)
  refine z_sld hx hb hX hbl hbA hS (show ¬ ((5 : Int32) < 0 ∨ 6 ≤ (5 : Int32).toNatClampNeg) from by decide) (v := s5) es5 dL_law_161 ?_
  have hPc : va_P (dC, dI) vwCl (ws_h_feed cB cI cJ cZ cQ aHh aTh qBh s1 s2 s3 s4 s5 fBh fsaHh fsaTh) H := hP.sub [0, 1, 2] rfl
  have hDc := hD.sub (ws' := (ws_h_feed cB cI cJ cZ cQ aHh aTh qBh s1 s2 s3 s4 s5 fBh fsaHh fsaTh)) [0, 1, 2] (by decide) rfl
  have hFc := va_free (wc := (ws_h_feed cB cI cJ cZ cQ aHh aTh qBh s1 s2 s3 s4 s5 fBh fsaHh fsaTh)) hD hS hA [0, 1, 2] rfl
  refine va_calli (va_runV (As := [.int s1, .int s2, .int s3, .int s4, .int s5]) (rest := []) ⟨hx, hb, hml, hown, hts⟩ (h_feed l dC dI cB cI cJ cZ cQ aHh aTh qBh s1 s2 s3 s4 s5 fBh fsaHh fsaTh H.size hlaHh haH_0h hlaTh haT_0h haT_1h) (cwV 5 hts gL_h_feed rfl rfl rfl (by decide +kernel) ⟨Nat.le_of_ble_eq_true rfl, Nat.le_of_ble_eq_true rfl⟩) ⟨zFB, va_recv hK hP (ci := 11) (q0 := 0) rfl rfl, fun U hU hW => zUp hU hW hPc hK hO hDc⟩ rfl rfl hl.1 rfl (lv_room (Nat.le_of_ble_eq_true rfl)) dL_law_162 ⟨Nat.le_of_ble_eq_true rfl, Nat.le_of_ble_eq_true rfl⟩) hS (fun q _ h => hFc q h) hFc (fun r6 u t H1 locs ht hvm hw7 hB hz1 hk1 hS => ?_)
  have hP1 : va_P (dC, dI) vwCl [] H1 := zNilP
  have hD1 : va_D (va_A (ws_h_feed cB cI cJ cZ cQ aHh aTh qBh s1 s2 s3 s4 s5 fBh fsaHh fsaTh) H.size) [] := zNilD
  obtain ⟨hP, hD⟩ := va_join (wr := [(aMm, .inr (12, fsaMm)), (qBm, .inl (cB, 3000, .inl fBm))]) (w1 := []) hP hD [0, 1, 2] [3, 4] rfl rfl (by decide) (by decide) hk1 hFc hP1 hD1
  generalize H1 = H at hP hS ⊢
  have hP : va_P (dC, dI) vwCl [(aMm, .inr (12, fsaMm)), (qBm, .inl (cB, 3000, .inl fBm))] H := hP
  have hD : va_D A [(aMm, .inr (12, fsaMm)), (qBm, .inl (cB, 3000, .inl fBm))] := hD
  obtain rfl : r6 = 20 := hw7
  refine lv_aload_n hx hb dL_law_165 rfl (lv_at hl 1 rfl) ?_
  refine lv_aload_n hx hb dL_law_166 rfl (lv_at hl 3 rfl) ?_
  refine lv_iload_n hx hb dL_law_167 rfl (lv_at hl 0 rfl) ?_
  refine lv_iconst (v := 1) hx hb dL_law_168 (by decide) ?_
  refine lv_iadd hx hb dL_law_169 ?_
  refine lv_topi (fun x8 ex8 => ?_)
  obtain rfl : x8 = 1 := ex8.trans (by decide)
  refine z_sld hx hb hX hbl hbA hS (show ¬ ((1 : Int32) < 0 ∨ 6 ≤ (1 : Int32).toNatClampNeg) from by decide) (v := s1) es1 dL_law_170 ?_
  refine lv_aload_n hx hb dL_law_171 rfl (lv_at hl 3 rfl) ?_
  refine lv_iload_n hx hb dL_law_172 rfl (lv_at hl 0 rfl) ?_
  refine lv_iconst (v := 2) hx hb dL_law_173 (by decide) ?_
  refine lv_iadd hx hb dL_law_174 ?_
  refine lv_topi (fun x9 ex9 => ?_)
  obtain rfl : x9 = 2 := ex9.trans (by decide)
  refine z_sld hx hb hX hbl hbA hS (show ¬ ((2 : Int32) < 0 ∨ 6 ≤ (2 : Int32).toNatClampNeg) from by decide) (v := s2) es2 dL_law_175 ?_
  refine lv_aload_n hx hb dL_law_176 rfl (lv_at hl 3 rfl) ?_
  refine lv_iload_n hx hb dL_law_177 rfl (lv_at hl 0 rfl) ?_
  refine lv_iconst (v := 3) hx hb dL_law_178 (by decide) ?_
  refine lv_iadd hx hb dL_law_179 ?_
  refine lv_topi (fun x10 ex10 => ?_)
  obtain rfl : x10 = 3 := ex10.trans (by decide)
  refine z_sld hx hb hX hbl hbA hS (show ¬ ((3 : Int32) < 0 ∨ 6 ≤ (3 : Int32).toNatClampNeg) from by decide) (v := s3) es3 dL_law_180 ?_
  refine lv_aload_n hx hb dL_law_181 rfl (lv_at hl 3 rfl) ?_
  refine lv_iload_n hx hb dL_law_182 rfl (lv_at hl 0 rfl) ?_
  refine lv_iconst (v := 4) hx hb dL_law_183 (by decide) ?_
  refine lv_iadd hx hb dL_law_184 ?_
  refine lv_topi (fun x11 ex11 => ?_)
  obtain rfl : x11 = 4 := ex11.trans (by decide)
  refine z_sld hx hb hX hbl hbA hS (show ¬ ((4 : Int32) < 0 ∨ 6 ≤ (4 : Int32).toNatClampNeg) from by decide) (v := s4) es4 dL_law_185 ?_
  refine lv_aload_n hx hb dL_law_186 rfl (lv_at hl 3 rfl) ?_
  refine lv_iload_n hx hb dL_law_187 rfl (lv_at hl 0 rfl) ?_
  refine lv_iconst (v := 5) hx hb dL_law_188 (by decide) ?_
  refine lv_iadd hx hb dL_law_189 ?_
  refine lv_topi (fun x12 ex12 => ?_)
  obtain rfl : x12 = 5 := ex12.trans (by decide)
  refine z_sld hx hb hX hbl hbA hS (show ¬ ((5 : Int32) < 0 ∨ 6 ≤ (5 : Int32).toNatClampNeg) from by decide) (v := s5) es5 dL_law_190 ?_
  have hPc : va_P (dC, dI) vwCl (ws_m_feed cB cI cJ cZ cQ aMm qBm s1 s2 s3 s4 s5 fBm fsaMm) H := hP.sub [0, 1] rfl
  have hDc := hD.sub (ws' := (ws_m_feed cB cI cJ cZ cQ aMm qBm s1 s2 s3 s4 s5 fBm fsaMm)) [0, 1] (by decide) rfl
  have hFc := va_free (wc := (ws_m_feed cB cI cJ cZ cQ aMm qBm s1 s2 s3 s4 s5 fBm fsaMm)) hD hS hA [0, 1] rfl
  refine va_calli (va_runV (As := [.int s1, .int s2, .int s3, .int s4, .int s5]) (rest := [.int 20]) ⟨hx, hb, hml, hown, hts⟩ (m_feed l dC dI cB cI cJ cZ cQ aMm qBm s1 s2 s3 s4 s5 fBm fsaMm H.size hlaMm haM_1m haM_2m) (cwV 5 hts gL_m_feed rfl rfl rfl (by decide +kernel) ⟨Nat.le_of_ble_eq_true rfl, Nat.le_of_ble_eq_true rfl⟩) ⟨zFB, va_recv hK hP (ci := 12) (q0 := 0) rfl rfl, fun U hU hW => zUp hU hW hPc hK hO hDc⟩ rfl rfl hl.1 rfl (lv_room (Nat.le_of_ble_eq_true rfl)) dL_law_191 ⟨Nat.le_of_ble_eq_true rfl, Nat.le_of_ble_eq_true rfl⟩) hS (fun q _ h => hFc q h) hFc (fun r13 u t H1 locs ht hvm hw14 hB hz1 hk1 hS => ?_)
  have hP1 : va_P (dC, dI) vwCl [] H1 := zNilP
  have hD1 : va_D (va_A (ws_m_feed cB cI cJ cZ cQ aMm qBm s1 s2 s3 s4 s5 fBm fsaMm) H.size) [] := zNilD
  obtain ⟨hP, hD⟩ := va_join (wr := []) (w1 := []) hP hD [0, 1] [] rfl rfl (by decide) (by decide) hk1 hFc hP1 hD1
  generalize H1 = H at hP hS ⊢
  have hP : va_P (dC, dI) vwCl [] H := hP
  have hD : va_D A [] := hD
  obtain rfl : r13 = 20 := hw14
  refine lv_icmp_eq (tgt := 888) hx hb dL_law_194 (by decide) (fun _ => ?_) (fun zc => absurd zc (by decide))
  refine lv_iinc (v := 6) (lv' := [(3, .int 6), (2, .ref aMm), (1, .ref aHh), (0, .ref b)]) hx hb dL_law_888 hl (k := 0) rfl (by decide) (by decide) rfl (fun ls hl => ?_)
  refine lv_goto (tgt := 18) hx hb dL_law_891 (by decide) ?_
  refine lv_iload_n hx hb dL_law_18 rfl (lv_at hl 0 rfl) ?_
  refine lv_aload_n hx hb dL_law_19 rfl (lv_at hl 3 rfl) ?_
  refine va_slen hx hb hX hbl hbA hS dL_law_20 ?_
  refine lv_topi (fun x15 ex15 => ?_)
  obtain rfl : x15 = 6 := ex15.trans (by decide)
  refine lv_bipush (v := 6) hx hb dL_law_21 (by decide) ?_
  refine lv_isub hx hb dL_law_23 ?_
  refine lv_topi (fun x16 ex16 => ?_)
  obtain rfl : x16 = 0 := ex16.trans (by decide)
  refine lv_icmp_gt (tgt := 894) hx hb dL_law_24 (by decide) (fun _ => ?_) (fun zc => absurd zc (by decide))
  refine lv_iconst (v := 1) hx hb dL_law_894 (by decide) ?_
  refine va_forget (fun q hq => by have := hS.2.2 q hq; rw [hAe] at this; exact this) ?_
  refine W.widen (k := 600000) (n := 7302250) (Nat.le_of_ble_eq_true rfl) (Nat.le_of_ble_eq_true rfl) ?_
  exact lw_ret hx hb hr hlocks dL_law_895

set_option maxHeartbeats 4000000 in
set_option maxRecDepth 100000 in
theorem lc_back {p : Program} {e : Env} {s : State} {m : MethodId} {below : List Frame} {meth : Method} {c : Code} (l : Launch) {b : Nat} {xs : Nat → Int32} (C0 : lw_At p s m meth c b 6 xs) (dC : Nat → ClassId) (dI : Nat → Nat → Nat) (cB cI cJ cZ cQ : ClassId) (hK : va_K (dC, dI) vwCl (zTY cB cI cJ cZ cQ) s) (hO : zAO s) (A : Nat → Prop) (hAe : A = fun q : Nat => s.heap.size ≤ q) (aHh aTh aMm : Nat) (fsaHh : List Value) (fsaTh : List Value) (fsaMm : List Value) (hlaHh : fsaHh.length = 13) (haH_0h : fsaHh[0]? = some (.ref aTh)) (hlaTh : fsaTh.length = 2) (haT_1h : fsaTh[1]? = some (.int 0)) (hlaMm : fsaMm.length = 87) (haM_2m : fsaMm[2]? = some (.int 0)) (s1 s2 s3 s4 s5 : Int32) (es1 : xs (1 : Int32).toNatClampNeg = s1) (es2 : xs (2 : Int32).toNatClampNeg = s2) (es3 : xs (3 : Int32).toNatClampNeg = s3) (es4 : xs (4 : Int32).toNatClampNeg = s4) (es5 : xs (5 : Int32).toNatClampNeg = s5) (H : Heap) (locs : List Loc) (ls : Array Slot) (hP : va_P (dC, dI) vwCl [(aHh, .inr (11, fsaHh)), (aTh, .inr (9, fsaTh)), (aMm, .inr (12, fsaMm))] H) (hD : va_D A [(aHh, .inr (11, fsaHh)), (aTh, .inr (9, fsaTh)), (aMm, .inr (12, fsaMm))]) (hS : va_S A s.heap H locs) (hl : lv_has ls 4 [(3, .int 0), (2, .ref aMm), (1, .ref aHh), (0, .ref b)]) : W p l e room_1 s m #[Value.ref b] below meth c H locs 139 25402 (lw_Z below #[Value.ref b] s) (F0 m 199 ls []) := by
  obtain ⟨hx, hb, hr, hml, hown0, hts0, hX, hbl, hlocks, hgv⟩ := C0
  have hts := hts0
  have hown : s.vm.findClass RL = some m.cls := hown0
  have hA : ∀ q : Nat, s.heap.size ≤ q → A q := fun q h => by rw [hAe]; exact h
  have hbA : ¬ A b := by rw [hAe]; exact Nat.not_le.mpr hbl
  refine lv_aload_n hx hb dL_law_199 rfl (lv_at hl 2 rfl) ?_
  refine lv_aload_n hx hb dL_law_200 rfl (lv_at hl 3 rfl) ?_
  refine lv_iload_n hx hb dL_law_201 rfl (lv_at hl 0 rfl) ?_
  refine lv_iconst (v := 1) hx hb dL_law_202 (by decide) ?_
  refine lv_iadd hx hb dL_law_203 ?_
  refine lv_topi (fun x1 ex1 => ?_)
  obtain rfl : x1 = 1 := ex1.trans (by decide)
  refine z_sld hx hb hX hbl hbA hS (show ¬ ((1 : Int32) < 0 ∨ 6 ≤ (1 : Int32).toNatClampNeg) from by decide) (v := s1) es1 dL_law_204 ?_
  have hPc : va_P (dC, dI) vwCl (ws_h_back cB cI cJ cZ cQ aHh aTh s1 fsaHh fsaTh) H := hP.sub [0, 1] rfl
  have hDc := hD.sub (ws' := (ws_h_back cB cI cJ cZ cQ aHh aTh s1 fsaHh fsaTh)) [0, 1] (by decide) rfl
  have hFc := va_free (wc := (ws_h_back cB cI cJ cZ cQ aHh aTh s1 fsaHh fsaTh)) hD hS hA [0, 1] rfl
  refine va_calli (va_runV (As := [.int s1]) (rest := []) ⟨hx, hb, hml, hown, hts⟩ (h_back l dC dI cB cI cJ cZ cQ aHh aTh s1 fsaHh fsaTh H.size hlaHh haH_0h hlaTh haT_1h) (cwV 1 hts gL_h_back rfl rfl rfl (by decide +kernel) ⟨Nat.le_of_ble_eq_true rfl, Nat.le_of_ble_eq_true rfl⟩) ⟨zFB, va_recv hK hP (ci := 11) (q0 := 0) rfl rfl, fun U hU hW => zUp hU hW hPc hK hO hDc⟩ rfl rfl hl.1 rfl (lv_room (Nat.le_of_ble_eq_true rfl)) dL_law_205 ⟨Nat.le_of_ble_eq_true rfl, Nat.le_of_ble_eq_true rfl⟩) hS (fun q _ h => hFc q h) hFc (fun r2 u t H1 locs ht hvm hw3 hB hz1 hk1 hS => ?_)
  have hP1 : va_P (dC, dI) vwCl [] H1 := zNilP
  have hD1 : va_D (va_A (ws_h_back cB cI cJ cZ cQ aHh aTh s1 fsaHh fsaTh) H.size) [] := zNilD
  obtain ⟨hP, hD⟩ := va_join (wr := [(aMm, .inr (12, fsaMm))]) (w1 := []) hP hD [0, 1] [2] rfl rfl (by decide) (by decide) hk1 hFc hP1 hD1
  generalize H1 = H at hP hS ⊢
  have hP : va_P (dC, dI) vwCl [(aMm, .inr (12, fsaMm))] H := hP
  have hD : va_D A [(aMm, .inr (12, fsaMm))] := hD
  refine lv_aload_n hx hb dL_law_208 rfl (lv_at hl 1 rfl) ?_
  refine lv_aload_n hx hb dL_law_209 rfl (lv_at hl 3 rfl) ?_
  refine lv_iload_n hx hb dL_law_210 rfl (lv_at hl 0 rfl) ?_
  refine lv_iconst (v := 1) hx hb dL_law_211 (by decide) ?_
  refine lv_iadd hx hb dL_law_212 ?_
  refine lv_topi (fun x4 ex4 => ?_)
  obtain rfl : x4 = 1 := ex4.trans (by decide)
  refine z_sld hx hb hX hbl hbA hS (show ¬ ((1 : Int32) < 0 ∨ 6 ≤ (1 : Int32).toNatClampNeg) from by decide) (v := s1) es1 dL_law_213 ?_
  have hPc : va_P (dC, dI) vwCl (ws_m_back cB cI cJ cZ cQ aMm s1 fsaMm) H := hP.sub [0] rfl
  have hDc := hD.sub (ws' := (ws_m_back cB cI cJ cZ cQ aMm s1 fsaMm)) [0] (by decide) rfl
  have hFc := va_free (wc := (ws_m_back cB cI cJ cZ cQ aMm s1 fsaMm)) hD hS hA [0] rfl
  refine va_calli (va_runV (As := [.int s1]) (rest := [.int r2]) ⟨hx, hb, hml, hown, hts⟩ (m_back l dC dI cB cI cJ cZ cQ aMm s1 fsaMm H.size hlaMm haM_2m) (cwV 1 hts gL_m_back rfl rfl rfl (by decide +kernel) ⟨Nat.le_of_ble_eq_true rfl, Nat.le_of_ble_eq_true rfl⟩) ⟨zFB, va_recv hK hP (ci := 12) (q0 := 0) rfl rfl, fun U hU hW => zUp hU hW hPc hK hO hDc⟩ rfl rfl hl.1 rfl (lv_room (Nat.le_of_ble_eq_true rfl)) dL_law_214 ⟨Nat.le_of_ble_eq_true rfl, Nat.le_of_ble_eq_true rfl⟩) hS (fun q _ h => hFc q h) hFc (fun r5 u t H1 locs ht hvm hw6 hB hz1 hk1 hS => ?_)
  have hP1 : va_P (dC, dI) vwCl [] H1 := zNilP
  have hD1 : va_D (va_A (ws_m_back cB cI cJ cZ cQ aMm s1 fsaMm) H.size) [] := zNilD
  obtain ⟨hP, hD⟩ := va_join (wr := []) (w1 := []) hP hD [0] [] rfl rfl (by decide) (by decide) hk1 hFc hP1 hD1
  generalize H1 = H at hP hS ⊢
  have hP : va_P (dC, dI) vwCl [] H := hP
  have hD : va_D A [] := hD
  refine lv_icmp_eq (tgt := 888) hx hb dL_law_217 (by decide) (fun _ => ?_) (fun zc => absurd (hw3.trans hw6.symm) zc)
  refine lv_iinc (v := 6) (lv' := [(3, .int 6), (2, .ref aMm), (1, .ref aHh), (0, .ref b)]) hx hb dL_law_888 hl (k := 0) rfl (by decide) (by decide) rfl (fun ls hl => ?_)
  refine lv_goto (tgt := 18) hx hb dL_law_891 (by decide) ?_
  refine lv_iload_n hx hb dL_law_18 rfl (lv_at hl 0 rfl) ?_
  refine lv_aload_n hx hb dL_law_19 rfl (lv_at hl 3 rfl) ?_
  refine va_slen hx hb hX hbl hbA hS dL_law_20 ?_
  refine lv_topi (fun x7 ex7 => ?_)
  obtain rfl : x7 = 6 := ex7.trans (by decide)
  refine lv_bipush (v := 6) hx hb dL_law_21 (by decide) ?_
  refine lv_isub hx hb dL_law_23 ?_
  refine lv_topi (fun x8 ex8 => ?_)
  obtain rfl : x8 = 0 := ex8.trans (by decide)
  refine lv_icmp_gt (tgt := 894) hx hb dL_law_24 (by decide) (fun _ => ?_) (fun zc => absurd zc (by decide))
  refine lv_iconst (v := 1) hx hb dL_law_894 (by decide) ?_
  refine va_forget (fun q hq => by have := hS.2.2 q hq; rw [hAe] at this; exact this) ?_
  refine W.widen (k := 600000) (n := 7302250) (Nat.le_of_ble_eq_true rfl) (Nat.le_of_ble_eq_true rfl) ?_
  exact lw_ret hx hb hr hlocks dL_law_895

set_option maxHeartbeats 4000000 in
set_option maxRecDepth 100000 in
theorem lc_read {p : Program} {e : Env} {s : State} {m : MethodId} {below : List Frame} {meth : Method} {c : Code} (l : Launch) {b : Nat} {xs : Nat → Int32} (C0 : lw_At p s m meth c b 6 xs) (dC : Nat → ClassId) (dI : Nat → Nat → Nat) (cB cI cJ cZ cQ : ClassId) (hK : va_K (dC, dI) vwCl (zTY cB cI cJ cZ cQ) s) (hO : zAO s) (A : Nat → Prop) (hAe : A = fun q : Nat => s.heap.size ≤ q) (aHh aTh aTkh qSh qPh qVh aRh aShh aDh aMm qTkm qTpm qTvm qTnm qLem qRlm aXh : Nat) (fSh : Nat → Int32) (fPh : Nat → Int32) (fVh : Nat → Int64) (fTkm : Nat → Int32) (fTpm : Nat → Int32) (fTvm : Nat → Int32) (fTnm : Nat → Int64) (fLem : Nat → Int32) (fRlm : Nat → Int32) (fsaHh : List Value) (fsaTh : List Value) (fsaTkh : List Value) (fsaRh : List Value) (fsaShh : List Value) (fsaDh : List Value) (fsaMm : List Value) (hlaHh : fsaHh.length = 13) (haH_0h : fsaHh[0]? = some (.ref aTh)) (haH_1h : fsaHh[1]? = some (.ref aTkh)) (haH_2h : fsaHh[2]? = some (.ref aRh)) (haH_6h : fsaHh[6]? = some (.ref aShh)) (haH_9h : fsaHh[9]? = some (.ref aDh)) (hlaTh : fsaTh.length = 2) (haT_1h : fsaTh[1]? = some (.int 0)) (hlaTkh : fsaTkh.length = 3) (haTk_0h : fsaTkh[0]? = some (.ref qSh)) (haTk_1h : fsaTkh[1]? = some (.ref qPh)) (haTk_2h : fsaTkh[2]? = some (.ref qVh)) (hlaRh : fsaRh.length = 11) (haR_0h : fsaRh[0]? = some (.ref aTkh)) (hlaShh : fsaShh.length = 8) (haSh_7h : fsaShh[7]? = some (.ref aXh)) (hlaDh : fsaDh.length = 13) (hlaMm : fsaMm.length = 87) (haM_2m : fsaMm[2]? = some (.int 0)) (haM_5m : fsaMm[5]? = some (.ref qTkm)) (haM_6m : fsaMm[6]? = some (.ref qTpm)) (haM_7m : fsaMm[7]? = some (.ref qTvm)) (haM_8m : fsaMm[8]? = some (.ref qTnm)) (haM_18m : fsaMm[18]? = some (.int 0)) (haM_20m : fsaMm[20]? = some (.ref qLem)) (haM_33m : fsaMm[33]? = some (.ref qRlm)) (s1 s2 s3 s4 s5 : Int32) (es1 : xs (1 : Int32).toNatClampNeg = s1) (es2 : xs (2 : Int32).toNatClampNeg = s2) (es3 : xs (3 : Int32).toNatClampNeg = s3) (es4 : xs (4 : Int32).toNatClampNeg = s4) (es5 : xs (5 : Int32).toNatClampNeg = s5) (H : Heap) (locs : List Loc) (ls : Array Slot) (hP : va_P (dC, dI) vwCl [(aHh, .inr (11, fsaHh)), (aTh, .inr (9, fsaTh)), (aTkh, .inr (10, fsaTkh)), (qSh, .inl (cI, 601, .inl fSh)), (qPh, .inl (cI, 601, .inl fPh)), (qVh, .inl (cJ, 601, .inr (.inl fVh))), (aRh, .inr (5, fsaRh)), (aShh, .inr (7, fsaShh)), (aDh, .inr (2, fsaDh)), (aMm, .inr (12, fsaMm)), (qTkm, .inl (cI, 603, .inl fTkm)), (qTpm, .inl (cI, 603, .inl fTpm)), (qTvm, .inl (cI, 603, .inl fTvm)), (qTnm, .inl (cJ, 603, .inr (.inl fTnm))), (qLem, .inl (cI, 2, .inl fLem)), (qRlm, .inl (cI, 2, .inl fRlm))] H) (hD : va_D A [(aHh, .inr (11, fsaHh)), (aTh, .inr (9, fsaTh)), (aTkh, .inr (10, fsaTkh)), (qSh, .inl (cI, 601, .inl fSh)), (qPh, .inl (cI, 601, .inl fPh)), (qVh, .inl (cJ, 601, .inr (.inl fVh))), (aRh, .inr (5, fsaRh)), (aShh, .inr (7, fsaShh)), (aDh, .inr (2, fsaDh)), (aMm, .inr (12, fsaMm)), (qTkm, .inl (cI, 603, .inl fTkm)), (qTpm, .inl (cI, 603, .inl fTpm)), (qTvm, .inl (cI, 603, .inl fTvm)), (qTnm, .inl (cJ, 603, .inr (.inl fTnm))), (qLem, .inl (cI, 2, .inl fLem)), (qRlm, .inl (cI, 2, .inl fRlm))]) (hS : va_S A s.heap H locs) (hl : lv_has ls 4 [(3, .int 0), (2, .ref aMm), (1, .ref aHh), (0, .ref b)]) : W p l e room_1 s m #[Value.ref b] below meth c H locs 139 25402 (lw_Z below #[Value.ref b] s) (F0 m 222 ls []) := by
  obtain ⟨hx, hb, hr, hml, hown0, hts0, hX, hbl, hlocks, hgv⟩ := C0
  have hts := hts0
  have hown : s.vm.findClass RL = some m.cls := hown0
  have hA : ∀ q : Nat, s.heap.size ≤ q → A q := fun q h => by rw [hAe]; exact h
  have hbA : ¬ A b := by rw [hAe]; exact Nat.not_le.mpr hbl
  refine lv_aload_n hx hb dL_law_222 rfl (lv_at hl 2 rfl) ?_
  have hPc : va_P (dC, dI) vwCl (ws_h_read cB cI cJ cZ cQ aHh aTh aTkh qSh qPh qVh aRh aShh aDh aXh fSh fPh fVh fsaHh fsaTh fsaTkh fsaRh fsaShh fsaDh) H := hP.sub [0, 1, 2, 3, 4, 5, 6, 7, 8] rfl
  have hDc := hD.sub (ws' := (ws_h_read cB cI cJ cZ cQ aHh aTh aTkh qSh qPh qVh aRh aShh aDh aXh fSh fPh fVh fsaHh fsaTh fsaTkh fsaRh fsaShh fsaDh)) [0, 1, 2, 3, 4, 5, 6, 7, 8] (by decide) rfl
  have hFc := va_free (wc := (ws_h_read cB cI cJ cZ cQ aHh aTh aTkh qSh qPh qVh aRh aShh aDh aXh fSh fPh fVh fsaHh fsaTh fsaTkh fsaRh fsaShh fsaDh)) hD hS hA [0, 1, 2, 3, 4, 5, 6, 7, 8] rfl
  refine va_calli (va_runV (As := []) (rest := []) ⟨hx, hb, hml, hown, hts⟩ (h_read l dC dI cB cI cJ cZ cQ aHh aTh aTkh qSh qPh qVh aRh aShh aDh aXh fSh fPh fVh fsaHh fsaTh fsaTkh fsaRh fsaShh fsaDh H.size hlaHh haH_0h haH_1h haH_2h haH_6h haH_9h hlaTh haT_1h hlaTkh haTk_0h haTk_1h haTk_2h hlaRh haR_0h hlaShh haSh_7h hlaDh) (cwV 0 hts gL_h_read rfl rfl rfl (by decide +kernel) ⟨Nat.le_of_ble_eq_true rfl, Nat.le_of_ble_eq_true rfl⟩) ⟨zFB, va_recv hK hP (ci := 11) (q0 := 0) rfl rfl, fun U hU hW => zUp hU hW hPc hK hO hDc⟩ rfl rfl hl.1 rfl (lv_room (Nat.le_of_ble_eq_true rfl)) dL_law_223 ⟨Nat.le_of_ble_eq_true rfl, Nat.le_of_ble_eq_true rfl⟩) hS (fun q _ h => hFc q h) hFc (fun r1 u t H1 locs ht hvm hw2 hB hz1 hk1 hS => ?_)
  have hP1 : va_P (dC, dI) vwCl [] H1 := zNilP
  have hD1 : va_D (va_A (ws_h_read cB cI cJ cZ cQ aHh aTh aTkh qSh qPh qVh aRh aShh aDh aXh fSh fPh fVh fsaHh fsaTh fsaTkh fsaRh fsaShh fsaDh) H.size) [] := zNilD
  obtain ⟨hP, hD⟩ := va_join (wr := [(aMm, .inr (12, fsaMm)), (qTkm, .inl (cI, 603, .inl fTkm)), (qTpm, .inl (cI, 603, .inl fTpm)), (qTvm, .inl (cI, 603, .inl fTvm)), (qTnm, .inl (cJ, 603, .inr (.inl fTnm))), (qLem, .inl (cI, 2, .inl fLem)), (qRlm, .inl (cI, 2, .inl fRlm))]) (w1 := []) hP hD [0, 1, 2, 3, 4, 5, 6, 7, 8] [9, 10, 11, 12, 13, 14, 15] rfl rfl (by decide) (by decide) hk1 hFc hP1 hD1
  generalize H1 = H at hP hS ⊢
  have hP : va_P (dC, dI) vwCl [(aMm, .inr (12, fsaMm)), (qTkm, .inl (cI, 603, .inl fTkm)), (qTpm, .inl (cI, 603, .inl fTpm)), (qTvm, .inl (cI, 603, .inl fTvm)), (qTnm, .inl (cJ, 603, .inr (.inl fTnm))), (qLem, .inl (cI, 2, .inl fLem)), (qRlm, .inl (cI, 2, .inl fRlm))] H := hP
  have hD : va_D A [(aMm, .inr (12, fsaMm)), (qTkm, .inl (cI, 603, .inl fTkm)), (qTpm, .inl (cI, 603, .inl fTpm)), (qTvm, .inl (cI, 603, .inl fTvm)), (qTnm, .inl (cJ, 603, .inr (.inl fTnm))), (qLem, .inl (cI, 2, .inl fLem)), (qRlm, .inl (cI, 2, .inl fRlm))] := hD
  obtain rfl : r1 = 0 := hw2
  refine lv_aload_n hx hb dL_law_226 rfl (lv_at hl 1 rfl) ?_
  have hPc : va_P (dC, dI) vwCl (ws_m_read cB cI cJ cZ cQ aMm qTkm qTpm qTvm qTnm qLem qRlm fTkm fTpm fTvm fTnm fLem fRlm fsaMm) H := hP.sub [0, 1, 2, 3, 4, 5, 6] rfl
  have hDc := hD.sub (ws' := (ws_m_read cB cI cJ cZ cQ aMm qTkm qTpm qTvm qTnm qLem qRlm fTkm fTpm fTvm fTnm fLem fRlm fsaMm)) [0, 1, 2, 3, 4, 5, 6] (by decide) rfl
  have hFc := va_free (wc := (ws_m_read cB cI cJ cZ cQ aMm qTkm qTpm qTvm qTnm qLem qRlm fTkm fTpm fTvm fTnm fLem fRlm fsaMm)) hD hS hA [0, 1, 2, 3, 4, 5, 6] rfl
  refine va_calli (va_runV (As := []) (rest := [.int 0]) ⟨hx, hb, hml, hown, hts⟩ (m_read l dC dI cB cI cJ cZ cQ aMm qTkm qTpm qTvm qTnm qLem qRlm fTkm fTpm fTvm fTnm fLem fRlm fsaMm H.size hlaMm haM_2m haM_5m haM_6m haM_7m haM_8m haM_18m haM_20m haM_33m) (cwV 0 hts gL_m_read rfl rfl rfl (by decide +kernel) ⟨Nat.le_of_ble_eq_true rfl, Nat.le_of_ble_eq_true rfl⟩) ⟨zFB, va_recv hK hP (ci := 12) (q0 := 0) rfl rfl, fun U hU hW => zUp hU hW hPc hK hO hDc⟩ rfl rfl hl.1 rfl (lv_room (Nat.le_of_ble_eq_true rfl)) dL_law_227 ⟨Nat.le_of_ble_eq_true rfl, Nat.le_of_ble_eq_true rfl⟩) hS (fun q _ h => hFc q h) hFc (fun r3 u t H1 locs ht hvm hw4 hB hz1 hk1 hS => ?_)
  have hP1 : va_P (dC, dI) vwCl [] H1 := zNilP
  have hD1 : va_D (va_A (ws_m_read cB cI cJ cZ cQ aMm qTkm qTpm qTvm qTnm qLem qRlm fTkm fTpm fTvm fTnm fLem fRlm fsaMm) H.size) [] := zNilD
  obtain ⟨hP, hD⟩ := va_join (wr := []) (w1 := []) hP hD [0, 1, 2, 3, 4, 5, 6] [] rfl rfl (by decide) (by decide) hk1 hFc hP1 hD1
  generalize H1 = H at hP hS ⊢
  have hP : va_P (dC, dI) vwCl [] H := hP
  have hD : va_D A [] := hD
  obtain rfl : r3 = 0 := hw4
  refine lv_icmp_eq (tgt := 888) hx hb dL_law_230 (by decide) (fun _ => ?_) (fun zc => absurd zc (by decide))
  refine lv_iinc (v := 6) (lv' := [(3, .int 6), (2, .ref aMm), (1, .ref aHh), (0, .ref b)]) hx hb dL_law_888 hl (k := 0) rfl (by decide) (by decide) rfl (fun ls hl => ?_)
  refine lv_goto (tgt := 18) hx hb dL_law_891 (by decide) ?_
  refine lv_iload_n hx hb dL_law_18 rfl (lv_at hl 0 rfl) ?_
  refine lv_aload_n hx hb dL_law_19 rfl (lv_at hl 3 rfl) ?_
  refine va_slen hx hb hX hbl hbA hS dL_law_20 ?_
  refine lv_topi (fun x5 ex5 => ?_)
  obtain rfl : x5 = 6 := ex5.trans (by decide)
  refine lv_bipush (v := 6) hx hb dL_law_21 (by decide) ?_
  refine lv_isub hx hb dL_law_23 ?_
  refine lv_topi (fun x6 ex6 => ?_)
  obtain rfl : x6 = 0 := ex6.trans (by decide)
  refine lv_icmp_gt (tgt := 894) hx hb dL_law_24 (by decide) (fun _ => ?_) (fun zc => absurd zc (by decide))
  refine lv_iconst (v := 1) hx hb dL_law_894 (by decide) ?_
  refine va_forget (fun q hq => by have := hS.2.2 q hq; rw [hAe] at this; exact this) ?_
  refine W.widen (k := 600000) (n := 7302250) (Nat.le_of_ble_eq_true rfl) (Nat.le_of_ble_eq_true rfl) ?_
  exact lw_ret hx hb hr hlocks dL_law_895

set_option maxHeartbeats 4000000 in
set_option maxRecDepth 100000 in
theorem lc_place {p : Program} {e : Env} {s : State} {m : MethodId} {below : List Frame} {meth : Method} {c : Code} (l : Launch) {b : Nat} {xs : Nat → Int32} (C0 : lw_At p s m meth c b 6 xs) (dC : Nat → ClassId) (dI : Nat → Nat → Nat) (cB cI cJ cZ cQ : ClassId) (hK : va_K (dC, dI) vwCl (zTY cB cI cJ cZ cQ) s) (hO : zAO s) (A : Nat → Prop) (hAe : A = fun q : Nat => s.heap.size ≤ q) (aHh aRh aMm : Nat) (fsaHh : List Value) (fsaRh : List Value) (fsaMm : List Value) (hlaHh : fsaHh.length = 13) (haH_2h : fsaHh[2]? = some (.ref aRh)) (hlaRh : fsaRh.length = 11) (haR_8h : fsaRh[8]? = some (.int (-1))) (hlaMm : fsaMm.length = 87) (haM_17m : fsaMm[17]? = some (.int (-1))) (s1 s2 s3 s4 s5 : Int32) (es1 : xs (1 : Int32).toNatClampNeg = s1) (es2 : xs (2 : Int32).toNatClampNeg = s2) (es3 : xs (3 : Int32).toNatClampNeg = s3) (es4 : xs (4 : Int32).toNatClampNeg = s4) (es5 : xs (5 : Int32).toNatClampNeg = s5) (H : Heap) (locs : List Loc) (ls : Array Slot) (hP : va_P (dC, dI) vwCl [(aHh, .inr (11, fsaHh)), (aRh, .inr (5, fsaRh)), (aMm, .inr (12, fsaMm))] H) (hD : va_D A [(aHh, .inr (11, fsaHh)), (aRh, .inr (5, fsaRh)), (aMm, .inr (12, fsaMm))]) (hS : va_S A s.heap H locs) (hl : lv_has ls 4 [(3, .int 0), (2, .ref aMm), (1, .ref aHh), (0, .ref b)]) : W p l e room_1 s m #[Value.ref b] below meth c H locs 139 25402 (lw_Z below #[Value.ref b] s) (F0 m 235 ls []) := by
  obtain ⟨hx, hb, hr, hml, hown0, hts0, hX, hbl, hlocks, hgv⟩ := C0
  have hts := hts0
  have hown : s.vm.findClass RL = some m.cls := hown0
  have hA : ∀ q : Nat, s.heap.size ≤ q → A q := fun q h => by rw [hAe]; exact h
  have hbA : ¬ A b := by rw [hAe]; exact Nat.not_le.mpr hbl
  refine lv_aload_n hx hb dL_law_235 rfl (lv_at hl 2 rfl) ?_
  have hPc : va_P (dC, dI) vwCl (ws_h_place cB cI cJ cZ cQ aHh aRh fsaHh fsaRh) H := hP.sub [0, 1] rfl
  have hDc := hD.sub (ws' := (ws_h_place cB cI cJ cZ cQ aHh aRh fsaHh fsaRh)) [0, 1] (by decide) rfl
  have hFc := va_free (wc := (ws_h_place cB cI cJ cZ cQ aHh aRh fsaHh fsaRh)) hD hS hA [0, 1] rfl
  refine va_calli (va_runV (As := []) (rest := []) ⟨hx, hb, hml, hown, hts⟩ (h_place l dC dI cB cI cJ cZ cQ aHh aRh fsaHh fsaRh H.size hlaHh haH_2h hlaRh haR_8h) (cwV 0 hts gL_h_place rfl rfl rfl (by decide +kernel) ⟨Nat.le_of_ble_eq_true rfl, Nat.le_of_ble_eq_true rfl⟩) ⟨zFB, va_recv hK hP (ci := 11) (q0 := 0) rfl rfl, fun U hU hW => zUp hU hW hPc hK hO hDc⟩ rfl rfl hl.1 rfl (lv_room (Nat.le_of_ble_eq_true rfl)) dL_law_236 ⟨Nat.le_of_ble_eq_true rfl, Nat.le_of_ble_eq_true rfl⟩) hS (fun q _ h => hFc q h) hFc (fun r1 u t H1 locs ht hvm hw2 hB hz1 hk1 hS => ?_)
  have hP1 : va_P (dC, dI) vwCl [] H1 := zNilP
  have hD1 : va_D (va_A (ws_h_place cB cI cJ cZ cQ aHh aRh fsaHh fsaRh) H.size) [] := zNilD
  obtain ⟨hP, hD⟩ := va_join (wr := [(aMm, .inr (12, fsaMm))]) (w1 := []) hP hD [0, 1] [2] rfl rfl (by decide) (by decide) hk1 hFc hP1 hD1
  generalize H1 = H at hP hS ⊢
  have hP : va_P (dC, dI) vwCl [(aMm, .inr (12, fsaMm))] H := hP
  have hD : va_D A [(aMm, .inr (12, fsaMm))] := hD
  obtain rfl : r1 = (-1) := hw2
  refine lv_aload_n hx hb dL_law_239 rfl (lv_at hl 1 rfl) ?_
  have hPc : va_P (dC, dI) vwCl (ws_m_place cB cI cJ cZ cQ aMm fsaMm) H := hP.sub [0] rfl
  have hDc := hD.sub (ws' := (ws_m_place cB cI cJ cZ cQ aMm fsaMm)) [0] (by decide) rfl
  have hFc := va_free (wc := (ws_m_place cB cI cJ cZ cQ aMm fsaMm)) hD hS hA [0] rfl
  refine va_calli (va_runV (As := []) (rest := [.int (-1)]) ⟨hx, hb, hml, hown, hts⟩ (m_place l dC dI cB cI cJ cZ cQ aMm fsaMm H.size hlaMm haM_17m) (cwV 0 hts gL_m_place rfl rfl rfl (by decide +kernel) ⟨Nat.le_of_ble_eq_true rfl, Nat.le_of_ble_eq_true rfl⟩) ⟨zFB, va_recv hK hP (ci := 12) (q0 := 0) rfl rfl, fun U hU hW => zUp hU hW hPc hK hO hDc⟩ rfl rfl hl.1 rfl (lv_room (Nat.le_of_ble_eq_true rfl)) dL_law_240 ⟨Nat.le_of_ble_eq_true rfl, Nat.le_of_ble_eq_true rfl⟩) hS (fun q _ h => hFc q h) hFc (fun r3 u t H1 locs ht hvm hw4 hB hz1 hk1 hS => ?_)
  have hP1 : va_P (dC, dI) vwCl [] H1 := zNilP
  have hD1 : va_D (va_A (ws_m_place cB cI cJ cZ cQ aMm fsaMm) H.size) [] := zNilD
  obtain ⟨hP, hD⟩ := va_join (wr := []) (w1 := []) hP hD [0] [] rfl rfl (by decide) (by decide) hk1 hFc hP1 hD1
  generalize H1 = H at hP hS ⊢
  have hP : va_P (dC, dI) vwCl [] H := hP
  have hD : va_D A [] := hD
  obtain rfl : r3 = (-1) := hw4
  refine lv_icmp_eq (tgt := 888) hx hb dL_law_243 (by decide) (fun _ => ?_) (fun zc => absurd zc (by decide))
  refine lv_iinc (v := 6) (lv' := [(3, .int 6), (2, .ref aMm), (1, .ref aHh), (0, .ref b)]) hx hb dL_law_888 hl (k := 0) rfl (by decide) (by decide) rfl (fun ls hl => ?_)
  refine lv_goto (tgt := 18) hx hb dL_law_891 (by decide) ?_
  refine lv_iload_n hx hb dL_law_18 rfl (lv_at hl 0 rfl) ?_
  refine lv_aload_n hx hb dL_law_19 rfl (lv_at hl 3 rfl) ?_
  refine va_slen hx hb hX hbl hbA hS dL_law_20 ?_
  refine lv_topi (fun x5 ex5 => ?_)
  obtain rfl : x5 = 6 := ex5.trans (by decide)
  refine lv_bipush (v := 6) hx hb dL_law_21 (by decide) ?_
  refine lv_isub hx hb dL_law_23 ?_
  refine lv_topi (fun x6 ex6 => ?_)
  obtain rfl : x6 = 0 := ex6.trans (by decide)
  refine lv_icmp_gt (tgt := 894) hx hb dL_law_24 (by decide) (fun _ => ?_) (fun zc => absurd zc (by decide))
  refine lv_iconst (v := 1) hx hb dL_law_894 (by decide) ?_
  refine va_forget (fun q hq => by have := hS.2.2 q hq; rw [hAe] at this; exact this) ?_
  refine W.widen (k := 600000) (n := 7302250) (Nat.le_of_ble_eq_true rfl) (Nat.le_of_ble_eq_true rfl) ?_
  exact lw_ret hx hb hr hlocks dL_law_895

set_option maxHeartbeats 4000000 in
set_option maxRecDepth 100000 in
theorem lc_hall {p : Program} {e : Env} {s : State} {m : MethodId} {below : List Frame} {meth : Method} {c : Code} (l : Launch) {b : Nat} {xs : Nat → Int32} (C0 : lw_At p s m meth c b 6 xs) (dC : Nat → ClassId) (dI : Nat → Nat → Nat) (cB cI cJ cZ cQ : ClassId) (hK : va_K (dC, dI) vwCl (zTY cB cI cJ cZ cQ) s) (hO : zAO s) (A : Nat → Prop) (hAe : A = fun q : Nat => s.heap.size ≤ q) (aHh aRah aMm : Nat) (fsaHh : List Value) (fsaRah : List Value) (fsaMm : List Value) (hlaHh : fsaHh.length = 13) (haH_3h : fsaHh[3]? = some (.ref aRah)) (hlaRah : fsaRah.length = 8) (haRa_6h : fsaRah[6]? = some (.int 1)) (hlaMm : fsaMm.length = 87) (haM_43m : fsaMm[43]? = some (.int 1)) (s1 s2 s3 s4 s5 : Int32) (es1 : xs (1 : Int32).toNatClampNeg = s1) (es2 : xs (2 : Int32).toNatClampNeg = s2) (es3 : xs (3 : Int32).toNatClampNeg = s3) (es4 : xs (4 : Int32).toNatClampNeg = s4) (es5 : xs (5 : Int32).toNatClampNeg = s5) (H : Heap) (locs : List Loc) (ls : Array Slot) (hP : va_P (dC, dI) vwCl [(aHh, .inr (11, fsaHh)), (aRah, .inr (4, fsaRah)), (aMm, .inr (12, fsaMm))] H) (hD : va_D A [(aHh, .inr (11, fsaHh)), (aRah, .inr (4, fsaRah)), (aMm, .inr (12, fsaMm))]) (hS : va_S A s.heap H locs) (hl : lv_has ls 4 [(3, .int 0), (2, .ref aMm), (1, .ref aHh), (0, .ref b)]) : W p l e room_1 s m #[Value.ref b] below meth c H locs 139 25402 (lw_Z below #[Value.ref b] s) (F0 m 248 ls []) := by
  obtain ⟨hx, hb, hr, hml, hown0, hts0, hX, hbl, hlocks, hgv⟩ := C0
  have hts := hts0
  have hown : s.vm.findClass RL = some m.cls := hown0
  have hA : ∀ q : Nat, s.heap.size ≤ q → A q := fun q h => by rw [hAe]; exact h
  have hbA : ¬ A b := by rw [hAe]; exact Nat.not_le.mpr hbl
  refine lv_aload_n hx hb dL_law_248 rfl (lv_at hl 2 rfl) ?_
  have hPc : va_P (dC, dI) vwCl (ws_h_hall cB cI cJ cZ cQ aHh aRah fsaHh fsaRah) H := hP.sub [0, 1] rfl
  have hDc := hD.sub (ws' := (ws_h_hall cB cI cJ cZ cQ aHh aRah fsaHh fsaRah)) [0, 1] (by decide) rfl
  have hFc := va_free (wc := (ws_h_hall cB cI cJ cZ cQ aHh aRah fsaHh fsaRah)) hD hS hA [0, 1] rfl
  refine va_calli (va_runV (As := []) (rest := []) ⟨hx, hb, hml, hown, hts⟩ (h_hall l dC dI cB cI cJ cZ cQ aHh aRah fsaHh fsaRah H.size hlaHh haH_3h hlaRah haRa_6h) (cwV 0 hts gL_h_hall rfl rfl rfl (by decide +kernel) ⟨Nat.le_of_ble_eq_true rfl, Nat.le_of_ble_eq_true rfl⟩) ⟨zFB, va_recv hK hP (ci := 11) (q0 := 0) rfl rfl, fun U hU hW => zUp hU hW hPc hK hO hDc⟩ rfl rfl hl.1 rfl (lv_room (Nat.le_of_ble_eq_true rfl)) dL_law_249 ⟨Nat.le_of_ble_eq_true rfl, Nat.le_of_ble_eq_true rfl⟩) hS (fun q _ h => hFc q h) hFc (fun r1 u t H1 locs ht hvm hw2 hB hz1 hk1 hS => ?_)
  have hP1 : va_P (dC, dI) vwCl [] H1 := zNilP
  have hD1 : va_D (va_A (ws_h_hall cB cI cJ cZ cQ aHh aRah fsaHh fsaRah) H.size) [] := zNilD
  obtain ⟨hP, hD⟩ := va_join (wr := [(aMm, .inr (12, fsaMm))]) (w1 := []) hP hD [0, 1] [2] rfl rfl (by decide) (by decide) hk1 hFc hP1 hD1
  generalize H1 = H at hP hS ⊢
  have hP : va_P (dC, dI) vwCl [(aMm, .inr (12, fsaMm))] H := hP
  have hD : va_D A [(aMm, .inr (12, fsaMm))] := hD
  obtain rfl : r1 = 1 := hw2
  refine lv_aload_n hx hb dL_law_252 rfl (lv_at hl 1 rfl) ?_
  have hPc : va_P (dC, dI) vwCl (ws_m_hall cB cI cJ cZ cQ aMm fsaMm) H := hP.sub [0] rfl
  have hDc := hD.sub (ws' := (ws_m_hall cB cI cJ cZ cQ aMm fsaMm)) [0] (by decide) rfl
  have hFc := va_free (wc := (ws_m_hall cB cI cJ cZ cQ aMm fsaMm)) hD hS hA [0] rfl
  refine va_calli (va_runV (As := []) (rest := [.int 1]) ⟨hx, hb, hml, hown, hts⟩ (m_hall l dC dI cB cI cJ cZ cQ aMm fsaMm H.size hlaMm haM_43m) (cwV 0 hts gL_m_hall rfl rfl rfl (by decide +kernel) ⟨Nat.le_of_ble_eq_true rfl, Nat.le_of_ble_eq_true rfl⟩) ⟨zFB, va_recv hK hP (ci := 12) (q0 := 0) rfl rfl, fun U hU hW => zUp hU hW hPc hK hO hDc⟩ rfl rfl hl.1 rfl (lv_room (Nat.le_of_ble_eq_true rfl)) dL_law_253 ⟨Nat.le_of_ble_eq_true rfl, Nat.le_of_ble_eq_true rfl⟩) hS (fun q _ h => hFc q h) hFc (fun r3 u t H1 locs ht hvm hw4 hB hz1 hk1 hS => ?_)
  have hP1 : va_P (dC, dI) vwCl [] H1 := zNilP
  have hD1 : va_D (va_A (ws_m_hall cB cI cJ cZ cQ aMm fsaMm) H.size) [] := zNilD
  obtain ⟨hP, hD⟩ := va_join (wr := []) (w1 := []) hP hD [0] [] rfl rfl (by decide) (by decide) hk1 hFc hP1 hD1
  generalize H1 = H at hP hS ⊢
  have hP : va_P (dC, dI) vwCl [] H := hP
  have hD : va_D A [] := hD
  obtain rfl : r3 = 1 := hw4
  refine lv_icmp_eq (tgt := 888) hx hb dL_law_256 (by decide) (fun _ => ?_) (fun zc => absurd zc (by decide))
  refine lv_iinc (v := 6) (lv' := [(3, .int 6), (2, .ref aMm), (1, .ref aHh), (0, .ref b)]) hx hb dL_law_888 hl (k := 0) rfl (by decide) (by decide) rfl (fun ls hl => ?_)
  refine lv_goto (tgt := 18) hx hb dL_law_891 (by decide) ?_
  refine lv_iload_n hx hb dL_law_18 rfl (lv_at hl 0 rfl) ?_
  refine lv_aload_n hx hb dL_law_19 rfl (lv_at hl 3 rfl) ?_
  refine va_slen hx hb hX hbl hbA hS dL_law_20 ?_
  refine lv_topi (fun x5 ex5 => ?_)
  obtain rfl : x5 = 6 := ex5.trans (by decide)
  refine lv_bipush (v := 6) hx hb dL_law_21 (by decide) ?_
  refine lv_isub hx hb dL_law_23 ?_
  refine lv_topi (fun x6 ex6 => ?_)
  obtain rfl : x6 = 0 := ex6.trans (by decide)
  refine lv_icmp_gt (tgt := 894) hx hb dL_law_24 (by decide) (fun _ => ?_) (fun zc => absurd zc (by decide))
  refine lv_iconst (v := 1) hx hb dL_law_894 (by decide) ?_
  refine va_forget (fun q hq => by have := hS.2.2 q hq; rw [hAe] at this; exact this) ?_
  refine W.widen (k := 600000) (n := 7302250) (Nat.le_of_ble_eq_true rfl) (Nat.le_of_ble_eq_true rfl) ?_
  exact lw_ret hx hb hr hlocks dL_law_895

set_option maxHeartbeats 4000000 in
set_option maxRecDepth 100000 in
theorem lc_train {p : Program} {e : Env} {s : State} {m : MethodId} {below : List Frame} {meth : Method} {c : Code} (l : Launch) {b : Nat} {xs : Nat → Int32} (C0 : lw_At p s m meth c b 6 xs) (dC : Nat → ClassId) (dI : Nat → Nat → Nat) (cB cI cJ cZ cQ : ClassId) (hK : va_K (dC, dI) vwCl (zTY cB cI cJ cZ cQ) s) (hO : zAO s) (A : Nat → Prop) (hAe : A = fun q : Nat => s.heap.size ≤ q) (aHh aRah aMm : Nat) (fsaHh : List Value) (fsaRah : List Value) (fsaMm : List Value) (hlaHh : fsaHh.length = 13) (haH_3h : fsaHh[3]? = some (.ref aRah)) (hlaRah : fsaRah.length = 8) (haRa_6h : fsaRah[6]? = some (.int 1)) (haRa_7h : fsaRah[7]? = some (.int 0)) (hlaMm : fsaMm.length = 87) (haM_43m : fsaMm[43]? = some (.int 1)) (haM_44m : fsaMm[44]? = some (.int 0)) (s1 s2 s3 s4 s5 : Int32) (es1 : xs (1 : Int32).toNatClampNeg = s1) (es2 : xs (2 : Int32).toNatClampNeg = s2) (es3 : xs (3 : Int32).toNatClampNeg = s3) (es4 : xs (4 : Int32).toNatClampNeg = s4) (es5 : xs (5 : Int32).toNatClampNeg = s5) (H : Heap) (locs : List Loc) (ls : Array Slot) (hP : va_P (dC, dI) vwCl [(aHh, .inr (11, fsaHh)), (aRah, .inr (4, fsaRah)), (aMm, .inr (12, fsaMm))] H) (hD : va_D A [(aHh, .inr (11, fsaHh)), (aRah, .inr (4, fsaRah)), (aMm, .inr (12, fsaMm))]) (hS : va_S A s.heap H locs) (hl : lv_has ls 4 [(3, .int 0), (2, .ref aMm), (1, .ref aHh), (0, .ref b)]) : W p l e room_1 s m #[Value.ref b] below meth c H locs 139 25402 (lw_Z below #[Value.ref b] s) (F0 m 261 ls []) := by
  obtain ⟨hx, hb, hr, hml, hown0, hts0, hX, hbl, hlocks, hgv⟩ := C0
  have hts := hts0
  have hown : s.vm.findClass RL = some m.cls := hown0
  have hA : ∀ q : Nat, s.heap.size ≤ q → A q := fun q h => by rw [hAe]; exact h
  have hbA : ¬ A b := by rw [hAe]; exact Nat.not_le.mpr hbl
  refine lv_aload_n hx hb dL_law_261 rfl (lv_at hl 2 rfl) ?_
  refine lv_aload_n hx hb dL_law_262 rfl (lv_at hl 3 rfl) ?_
  refine lv_iload_n hx hb dL_law_263 rfl (lv_at hl 0 rfl) ?_
  refine lv_iconst (v := 1) hx hb dL_law_264 (by decide) ?_
  refine lv_iadd hx hb dL_law_265 ?_
  refine lv_topi (fun x1 ex1 => ?_)
  obtain rfl : x1 = 1 := ex1.trans (by decide)
  refine z_sld hx hb hX hbl hbA hS (show ¬ ((1 : Int32) < 0 ∨ 6 ≤ (1 : Int32).toNatClampNeg) from by decide) (v := s1) es1 dL_law_266 ?_
  refine lv_aload_n hx hb dL_law_267 rfl (lv_at hl 3 rfl) ?_
  refine lv_iload_n hx hb dL_law_268 rfl (lv_at hl 0 rfl) ?_
  refine lv_iconst (v := 2) hx hb dL_law_269 (by decide) ?_
  refine lv_iadd hx hb dL_law_270 ?_
  refine lv_topi (fun x2 ex2 => ?_)
  obtain rfl : x2 = 2 := ex2.trans (by decide)
  refine z_sld hx hb hX hbl hbA hS (show ¬ ((2 : Int32) < 0 ∨ 6 ≤ (2 : Int32).toNatClampNeg) from by decide) (v := s2) es2 dL_law_271 ?_
  refine lv_aload_n hx hb dL_law_272 rfl (lv_at hl 3 rfl) ?_
  refine lv_iload_n hx hb dL_law_273 rfl (lv_at hl 0 rfl) ?_
  refine lv_iconst (v := 3) hx hb dL_law_274 (by decide) ?_
  refine lv_iadd hx hb dL_law_275 ?_
  refine lv_topi (fun x3 ex3 => ?_)
  obtain rfl : x3 = 3 := ex3.trans (by decide)
  refine z_sld hx hb hX hbl hbA hS (show ¬ ((3 : Int32) < 0 ∨ 6 ≤ (3 : Int32).toNatClampNeg) from by decide) (v := s3) es3 dL_law_276 ?_
  refine lv_aload_n hx hb dL_law_277 rfl (lv_at hl 3 rfl) ?_
  refine lv_iload_n hx hb dL_law_278 rfl (lv_at hl 0 rfl) ?_
  refine lv_iconst (v := 4) hx hb dL_law_279 (by decide) ?_
  refine lv_iadd hx hb dL_law_280 ?_
  refine lv_topi (fun x4 ex4 => ?_)
  obtain rfl : x4 = 4 := ex4.trans (by decide)
  refine z_sld hx hb hX hbl hbA hS (show ¬ ((4 : Int32) < 0 ∨ 6 ≤ (4 : Int32).toNatClampNeg) from by decide) (v := s4) es4 dL_law_281 ?_
  have hPc : va_P (dC, dI) vwCl (ws_h_train cB cI cJ cZ cQ aHh aRah s1 s2 s3 s4 fsaHh fsaRah) H := hP.sub [0, 1] rfl
  have hDc := hD.sub (ws' := (ws_h_train cB cI cJ cZ cQ aHh aRah s1 s2 s3 s4 fsaHh fsaRah)) [0, 1] (by decide) rfl
  have hFc := va_free (wc := (ws_h_train cB cI cJ cZ cQ aHh aRah s1 s2 s3 s4 fsaHh fsaRah)) hD hS hA [0, 1] rfl
  refine va_calli (va_runV (As := [.int s1, .int s2, .int s3, .int s4]) (rest := []) ⟨hx, hb, hml, hown, hts⟩ (h_train l dC dI cB cI cJ cZ cQ aHh aRah s1 s2 s3 s4 fsaHh fsaRah H.size hlaHh haH_3h hlaRah haRa_6h haRa_7h) (cwV 4 hts gL_h_train rfl rfl rfl (by decide +kernel) ⟨Nat.le_of_ble_eq_true rfl, Nat.le_of_ble_eq_true rfl⟩) ⟨zFB, va_recv hK hP (ci := 11) (q0 := 0) rfl rfl, fun U hU hW => zUp hU hW hPc hK hO hDc⟩ rfl rfl hl.1 rfl (lv_room (Nat.le_of_ble_eq_true rfl)) dL_law_282 ⟨Nat.le_of_ble_eq_true rfl, Nat.le_of_ble_eq_true rfl⟩) hS (fun q _ h => hFc q h) hFc (fun r5 u t H1 locs ht hvm hw6 hB hz1 hk1 hS => ?_)
  have hP1 : va_P (dC, dI) vwCl [] H1 := zNilP
  have hD1 : va_D (va_A (ws_h_train cB cI cJ cZ cQ aHh aRah s1 s2 s3 s4 fsaHh fsaRah) H.size) [] := zNilD
  obtain ⟨hP, hD⟩ := va_join (wr := [(aMm, .inr (12, fsaMm))]) (w1 := []) hP hD [0, 1] [2] rfl rfl (by decide) (by decide) hk1 hFc hP1 hD1
  generalize H1 = H at hP hS ⊢
  have hP : va_P (dC, dI) vwCl [(aMm, .inr (12, fsaMm))] H := hP
  have hD : va_D A [(aMm, .inr (12, fsaMm))] := hD
  obtain rfl : r5 = (-1) := hw6
  refine lv_aload_n hx hb dL_law_285 rfl (lv_at hl 1 rfl) ?_
  refine lv_aload_n hx hb dL_law_286 rfl (lv_at hl 3 rfl) ?_
  refine lv_iload_n hx hb dL_law_287 rfl (lv_at hl 0 rfl) ?_
  refine lv_iconst (v := 1) hx hb dL_law_288 (by decide) ?_
  refine lv_iadd hx hb dL_law_289 ?_
  refine lv_topi (fun x7 ex7 => ?_)
  obtain rfl : x7 = 1 := ex7.trans (by decide)
  refine z_sld hx hb hX hbl hbA hS (show ¬ ((1 : Int32) < 0 ∨ 6 ≤ (1 : Int32).toNatClampNeg) from by decide) (v := s1) es1 dL_law_290 ?_
  refine lv_aload_n hx hb dL_law_291 rfl (lv_at hl 3 rfl) ?_
  refine lv_iload_n hx hb dL_law_292 rfl (lv_at hl 0 rfl) ?_
  refine lv_iconst (v := 2) hx hb dL_law_293 (by decide) ?_
  refine lv_iadd hx hb dL_law_294 ?_
  refine lv_topi (fun x8 ex8 => ?_)
  obtain rfl : x8 = 2 := ex8.trans (by decide)
  refine z_sld hx hb hX hbl hbA hS (show ¬ ((2 : Int32) < 0 ∨ 6 ≤ (2 : Int32).toNatClampNeg) from by decide) (v := s2) es2 dL_law_295 ?_
  refine lv_aload_n hx hb dL_law_296 rfl (lv_at hl 3 rfl) ?_
  refine lv_iload_n hx hb dL_law_297 rfl (lv_at hl 0 rfl) ?_
  refine lv_iconst (v := 3) hx hb dL_law_298 (by decide) ?_
  refine lv_iadd hx hb dL_law_299 ?_
  refine lv_topi (fun x9 ex9 => ?_)
  obtain rfl : x9 = 3 := ex9.trans (by decide)
  refine z_sld hx hb hX hbl hbA hS (show ¬ ((3 : Int32) < 0 ∨ 6 ≤ (3 : Int32).toNatClampNeg) from by decide) (v := s3) es3 dL_law_300 ?_
  refine lv_aload_n hx hb dL_law_301 rfl (lv_at hl 3 rfl) ?_
  refine lv_iload_n hx hb dL_law_302 rfl (lv_at hl 0 rfl) ?_
  refine lv_iconst (v := 4) hx hb dL_law_303 (by decide) ?_
  refine lv_iadd hx hb dL_law_304 ?_
  refine lv_topi (fun x10 ex10 => ?_)
  obtain rfl : x10 = 4 := ex10.trans (by decide)
  refine z_sld hx hb hX hbl hbA hS (show ¬ ((4 : Int32) < 0 ∨ 6 ≤ (4 : Int32).toNatClampNeg) from by decide) (v := s4) es4 dL_law_305 ?_
  have hPc : va_P (dC, dI) vwCl (ws_m_train cB cI cJ cZ cQ aMm s1 s2 s3 s4 fsaMm) H := hP.sub [0] rfl
  have hDc := hD.sub (ws' := (ws_m_train cB cI cJ cZ cQ aMm s1 s2 s3 s4 fsaMm)) [0] (by decide) rfl
  have hFc := va_free (wc := (ws_m_train cB cI cJ cZ cQ aMm s1 s2 s3 s4 fsaMm)) hD hS hA [0] rfl
  refine va_calli (va_runV (As := [.int s1, .int s2, .int s3, .int s4]) (rest := [.int (-1)]) ⟨hx, hb, hml, hown, hts⟩ (m_train l dC dI cB cI cJ cZ cQ aMm s1 s2 s3 s4 fsaMm H.size hlaMm haM_43m haM_44m) (cwV 4 hts gL_m_train rfl rfl rfl (by decide +kernel) ⟨Nat.le_of_ble_eq_true rfl, Nat.le_of_ble_eq_true rfl⟩) ⟨zFB, va_recv hK hP (ci := 12) (q0 := 0) rfl rfl, fun U hU hW => zUp hU hW hPc hK hO hDc⟩ rfl rfl hl.1 rfl (lv_room (Nat.le_of_ble_eq_true rfl)) dL_law_306 ⟨Nat.le_of_ble_eq_true rfl, Nat.le_of_ble_eq_true rfl⟩) hS (fun q _ h => hFc q h) hFc (fun r11 u t H1 locs ht hvm hw12 hB hz1 hk1 hS => ?_)
  have hP1 : va_P (dC, dI) vwCl [] H1 := zNilP
  have hD1 : va_D (va_A (ws_m_train cB cI cJ cZ cQ aMm s1 s2 s3 s4 fsaMm) H.size) [] := zNilD
  obtain ⟨hP, hD⟩ := va_join (wr := []) (w1 := []) hP hD [0] [] rfl rfl (by decide) (by decide) hk1 hFc hP1 hD1
  generalize H1 = H at hP hS ⊢
  have hP : va_P (dC, dI) vwCl [] H := hP
  have hD : va_D A [] := hD
  obtain rfl : r11 = (-1) := hw12
  refine lv_icmp_eq (tgt := 888) hx hb dL_law_309 (by decide) (fun _ => ?_) (fun zc => absurd zc (by decide))
  refine lv_iinc (v := 6) (lv' := [(3, .int 6), (2, .ref aMm), (1, .ref aHh), (0, .ref b)]) hx hb dL_law_888 hl (k := 0) rfl (by decide) (by decide) rfl (fun ls hl => ?_)
  refine lv_goto (tgt := 18) hx hb dL_law_891 (by decide) ?_
  refine lv_iload_n hx hb dL_law_18 rfl (lv_at hl 0 rfl) ?_
  refine lv_aload_n hx hb dL_law_19 rfl (lv_at hl 3 rfl) ?_
  refine va_slen hx hb hX hbl hbA hS dL_law_20 ?_
  refine lv_topi (fun x13 ex13 => ?_)
  obtain rfl : x13 = 6 := ex13.trans (by decide)
  refine lv_bipush (v := 6) hx hb dL_law_21 (by decide) ?_
  refine lv_isub hx hb dL_law_23 ?_
  refine lv_topi (fun x14 ex14 => ?_)
  obtain rfl : x14 = 0 := ex14.trans (by decide)
  refine lv_icmp_gt (tgt := 894) hx hb dL_law_24 (by decide) (fun _ => ?_) (fun zc => absurd zc (by decide))
  refine lv_iconst (v := 1) hx hb dL_law_894 (by decide) ?_
  refine va_forget (fun q hq => by have := hS.2.2 q hq; rw [hAe] at this; exact this) ?_
  refine W.widen (k := 600000) (n := 7302250) (Nat.le_of_ble_eq_true rfl) (Nat.le_of_ble_eq_true rfl) ?_
  exact lw_ret hx hb hr hlocks dL_law_895

set_option maxHeartbeats 4000000 in
set_option maxRecDepth 100000 in
theorem lc_plate {p : Program} {e : Env} {s : State} {m : MethodId} {below : List Frame} {meth : Method} {c : Code} (l : Launch) {b : Nat} {xs : Nat → Int32} (C0 : lw_At p s m meth c b 6 xs) (dC : Nat → ClassId) (dI : Nat → Nat → Nat) (cB cI cJ cZ cQ : ClassId) (hK : va_K (dC, dI) vwCl (zTY cB cI cJ cZ cQ) s) (hO : zAO s) (A : Nat → Prop) (hAe : A = fun q : Nat => s.heap.size ≤ q) (aHh aSh qKh qPkh aMm qKim : Nat) (fKh : Nat → Int32) (fPkh : Nat → Int32) (fKim : Nat → Int32) (fsaHh : List Value) (fsaSh : List Value) (fsaMm : List Value) (hlaHh : fsaHh.length = 13) (haH_4h : fsaHh[4]? = some (.ref aSh)) (hlaSh : fsaSh.length = 3) (haS_0h : fsaSh[0]? = some (.ref qKh)) (haS_1h : fsaSh[1]? = some (.ref qPkh)) (haS_2h : fsaSh[2]? = some (.int 0)) (hlaMm : fsaMm.length = 87) (haM_49m : fsaMm[49]? = some (.int 0)) (haM_50m : fsaMm[50]? = some (.ref qKim)) (s1 s2 s3 s4 s5 : Int32) (es1 : xs (1 : Int32).toNatClampNeg = s1) (es2 : xs (2 : Int32).toNatClampNeg = s2) (es3 : xs (3 : Int32).toNatClampNeg = s3) (es4 : xs (4 : Int32).toNatClampNeg = s4) (es5 : xs (5 : Int32).toNatClampNeg = s5) (H : Heap) (locs : List Loc) (ls : Array Slot) (hP : va_P (dC, dI) vwCl [(aHh, .inr (11, fsaHh)), (aSh, .inr (8, fsaSh)), (qKh, .inl (cI, 20, .inl fKh)), (qPkh, .inl (cI, 30, .inl fPkh)), (aMm, .inr (12, fsaMm)), (qKim, .inl (cI, 20, .inl fKim))] H) (hD : va_D A [(aHh, .inr (11, fsaHh)), (aSh, .inr (8, fsaSh)), (qKh, .inl (cI, 20, .inl fKh)), (qPkh, .inl (cI, 30, .inl fPkh)), (aMm, .inr (12, fsaMm)), (qKim, .inl (cI, 20, .inl fKim))]) (hS : va_S A s.heap H locs) (hl : lv_has ls 4 [(3, .int 0), (2, .ref aMm), (1, .ref aHh), (0, .ref b)]) : W p l e room_1 s m #[Value.ref b] below meth c H locs 139 25402 (lw_Z below #[Value.ref b] s) (F0 m 314 ls []) := by
  obtain ⟨hx, hb, hr, hml, hown0, hts0, hX, hbl, hlocks, hgv⟩ := C0
  have hts := hts0
  have hown : s.vm.findClass RL = some m.cls := hown0
  have hA : ∀ q : Nat, s.heap.size ≤ q → A q := fun q h => by rw [hAe]; exact h
  have hbA : ¬ A b := by rw [hAe]; exact Nat.not_le.mpr hbl
  refine lv_aload_n hx hb dL_law_314 rfl (lv_at hl 2 rfl) ?_
  refine lv_aload_n hx hb dL_law_315 rfl (lv_at hl 3 rfl) ?_
  refine lv_iload_n hx hb dL_law_316 rfl (lv_at hl 0 rfl) ?_
  refine lv_iconst (v := 1) hx hb dL_law_317 (by decide) ?_
  refine lv_iadd hx hb dL_law_318 ?_
  refine lv_topi (fun x1 ex1 => ?_)
  obtain rfl : x1 = 1 := ex1.trans (by decide)
  refine z_sld hx hb hX hbl hbA hS (show ¬ ((1 : Int32) < 0 ∨ 6 ≤ (1 : Int32).toNatClampNeg) from by decide) (v := s1) es1 dL_law_319 ?_
  have hPc : va_P (dC, dI) vwCl (ws_h_plate cB cI cJ cZ cQ aHh aSh qKh qPkh s1 fKh fPkh fsaHh fsaSh) H := hP.sub [0, 1, 2, 3] rfl
  have hDc := hD.sub (ws' := (ws_h_plate cB cI cJ cZ cQ aHh aSh qKh qPkh s1 fKh fPkh fsaHh fsaSh)) [0, 1, 2, 3] (by decide) rfl
  have hFc := va_free (wc := (ws_h_plate cB cI cJ cZ cQ aHh aSh qKh qPkh s1 fKh fPkh fsaHh fsaSh)) hD hS hA [0, 1, 2, 3] rfl
  refine va_calli (va_runV (As := [.int s1]) (rest := []) ⟨hx, hb, hml, hown, hts⟩ (h_plate l dC dI cB cI cJ cZ cQ aHh aSh qKh qPkh s1 fKh fPkh fsaHh fsaSh H.size hlaHh haH_4h hlaSh haS_0h haS_1h haS_2h) (cwV 1 hts gL_h_plate rfl rfl rfl (by decide +kernel) ⟨Nat.le_of_ble_eq_true rfl, Nat.le_of_ble_eq_true rfl⟩) ⟨zFB, va_recv hK hP (ci := 11) (q0 := 0) rfl rfl, fun U hU hW => zUp hU hW hPc hK hO hDc⟩ rfl rfl hl.1 rfl (lv_room (Nat.le_of_ble_eq_true rfl)) dL_law_320 ⟨Nat.le_of_ble_eq_true rfl, Nat.le_of_ble_eq_true rfl⟩) hS (fun q _ h => hFc q h) hFc (fun r2 u t H1 locs ht hvm hw3 hB hz1 hk1 hS => ?_)
  have hP1 : va_P (dC, dI) vwCl [] H1 := zNilP
  have hD1 : va_D (va_A (ws_h_plate cB cI cJ cZ cQ aHh aSh qKh qPkh s1 fKh fPkh fsaHh fsaSh) H.size) [] := zNilD
  obtain ⟨hP, hD⟩ := va_join (wr := [(aMm, .inr (12, fsaMm)), (qKim, .inl (cI, 20, .inl fKim))]) (w1 := []) hP hD [0, 1, 2, 3] [4, 5] rfl rfl (by decide) (by decide) hk1 hFc hP1 hD1
  generalize H1 = H at hP hS ⊢
  have hP : va_P (dC, dI) vwCl [(aMm, .inr (12, fsaMm)), (qKim, .inl (cI, 20, .inl fKim))] H := hP
  have hD : va_D A [(aMm, .inr (12, fsaMm)), (qKim, .inl (cI, 20, .inl fKim))] := hD
  refine lv_aload_n hx hb dL_law_323 rfl (lv_at hl 1 rfl) ?_
  refine lv_aload_n hx hb dL_law_324 rfl (lv_at hl 3 rfl) ?_
  refine lv_iload_n hx hb dL_law_325 rfl (lv_at hl 0 rfl) ?_
  refine lv_iconst (v := 1) hx hb dL_law_326 (by decide) ?_
  refine lv_iadd hx hb dL_law_327 ?_
  refine lv_topi (fun x4 ex4 => ?_)
  obtain rfl : x4 = 1 := ex4.trans (by decide)
  refine z_sld hx hb hX hbl hbA hS (show ¬ ((1 : Int32) < 0 ∨ 6 ≤ (1 : Int32).toNatClampNeg) from by decide) (v := s1) es1 dL_law_328 ?_
  have hPc : va_P (dC, dI) vwCl (ws_m_plate cB cI cJ cZ cQ aMm qKim s1 fKim fsaMm) H := hP.sub [0, 1] rfl
  have hDc := hD.sub (ws' := (ws_m_plate cB cI cJ cZ cQ aMm qKim s1 fKim fsaMm)) [0, 1] (by decide) rfl
  have hFc := va_free (wc := (ws_m_plate cB cI cJ cZ cQ aMm qKim s1 fKim fsaMm)) hD hS hA [0, 1] rfl
  refine va_calli (va_runV (As := [.int s1]) (rest := [.int r2]) ⟨hx, hb, hml, hown, hts⟩ (m_plate l dC dI cB cI cJ cZ cQ aMm qKim s1 fKim fsaMm H.size hlaMm haM_49m haM_50m) (cwV 1 hts gL_m_plate rfl rfl rfl (by decide +kernel) ⟨Nat.le_of_ble_eq_true rfl, Nat.le_of_ble_eq_true rfl⟩) ⟨zFB, va_recv hK hP (ci := 12) (q0 := 0) rfl rfl, fun U hU hW => zUp hU hW hPc hK hO hDc⟩ rfl rfl hl.1 rfl (lv_room (Nat.le_of_ble_eq_true rfl)) dL_law_329 ⟨Nat.le_of_ble_eq_true rfl, Nat.le_of_ble_eq_true rfl⟩) hS (fun q _ h => hFc q h) hFc (fun r5 u t H1 locs ht hvm hw6 hB hz1 hk1 hS => ?_)
  have hP1 : va_P (dC, dI) vwCl [] H1 := zNilP
  have hD1 : va_D (va_A (ws_m_plate cB cI cJ cZ cQ aMm qKim s1 fKim fsaMm) H.size) [] := zNilD
  obtain ⟨hP, hD⟩ := va_join (wr := []) (w1 := []) hP hD [0, 1] [] rfl rfl (by decide) (by decide) hk1 hFc hP1 hD1
  generalize H1 = H at hP hS ⊢
  have hP : va_P (dC, dI) vwCl [] H := hP
  have hD : va_D A [] := hD
  refine lv_icmp_eq (tgt := 888) hx hb dL_law_332 (by decide) (fun _ => ?_) (fun zc => absurd (hw3.trans hw6.symm) zc)
  refine lv_iinc (v := 6) (lv' := [(3, .int 6), (2, .ref aMm), (1, .ref aHh), (0, .ref b)]) hx hb dL_law_888 hl (k := 0) rfl (by decide) (by decide) rfl (fun ls hl => ?_)
  refine lv_goto (tgt := 18) hx hb dL_law_891 (by decide) ?_
  refine lv_iload_n hx hb dL_law_18 rfl (lv_at hl 0 rfl) ?_
  refine lv_aload_n hx hb dL_law_19 rfl (lv_at hl 3 rfl) ?_
  refine va_slen hx hb hX hbl hbA hS dL_law_20 ?_
  refine lv_topi (fun x7 ex7 => ?_)
  obtain rfl : x7 = 6 := ex7.trans (by decide)
  refine lv_bipush (v := 6) hx hb dL_law_21 (by decide) ?_
  refine lv_isub hx hb dL_law_23 ?_
  refine lv_topi (fun x8 ex8 => ?_)
  obtain rfl : x8 = 0 := ex8.trans (by decide)
  refine lv_icmp_gt (tgt := 894) hx hb dL_law_24 (by decide) (fun _ => ?_) (fun zc => absurd zc (by decide))
  refine lv_iconst (v := 1) hx hb dL_law_894 (by decide) ?_
  refine va_forget (fun q hq => by have := hS.2.2 q hq; rw [hAe] at this; exact this) ?_
  refine W.widen (k := 600000) (n := 7302250) (Nat.le_of_ble_eq_true rfl) (Nat.le_of_ble_eq_true rfl) ?_
  exact lw_ret hx hb hr hlocks dL_law_895

set_option maxHeartbeats 4000000 in
set_option maxRecDepth 100000 in
theorem lc_cleaning {p : Program} {e : Env} {s : State} {m : MethodId} {below : List Frame} {meth : Method} {c : Code} (l : Launch) {b : Nat} {xs : Nat → Int32} (C0 : lw_At p s m meth c b 6 xs) (dC : Nat → ClassId) (dI : Nat → Nat → Nat) (cB cI cJ cZ cQ : ClassId) (hK : va_K (dC, dI) vwCl (zTY cB cI cJ cZ cQ) s) (hO : zAO s) (A : Nat → Prop) (hAe : A = fun q : Nat => s.heap.size ≤ q) (aHh aKh aMm : Nat) (fsaHh : List Value) (fsaKh : List Value) (fsaMm : List Value) (hlaHh : fsaHh.length = 13) (haH_7h : fsaHh[7]? = some (.ref aKh)) (hlaKh : fsaKh.length = 8) (hlaMm : fsaMm.length = 87) (s1 s2 s3 s4 s5 : Int32) (es1 : xs (1 : Int32).toNatClampNeg = s1) (es2 : xs (2 : Int32).toNatClampNeg = s2) (es3 : xs (3 : Int32).toNatClampNeg = s3) (es4 : xs (4 : Int32).toNatClampNeg = s4) (es5 : xs (5 : Int32).toNatClampNeg = s5) (H : Heap) (locs : List Loc) (ls : Array Slot) (hP : va_P (dC, dI) vwCl [(aHh, .inr (11, fsaHh)), (aKh, .inr (1, fsaKh)), (aMm, .inr (12, fsaMm))] H) (hD : va_D A [(aHh, .inr (11, fsaHh)), (aKh, .inr (1, fsaKh)), (aMm, .inr (12, fsaMm))]) (hS : va_S A s.heap H locs) (hl : lv_has ls 4 [(3, .int 0), (2, .ref aMm), (1, .ref aHh), (0, .ref b)]) : W p l e room_1 s m #[Value.ref b] below meth c H locs 139 25402 (lw_Z below #[Value.ref b] s) (F0 m 337 ls []) := by
  obtain ⟨hx, hb, hr, hml, hown0, hts0, hX, hbl, hlocks, hgv⟩ := C0
  have hts := hts0
  have hown : s.vm.findClass RL = some m.cls := hown0
  have hA : ∀ q : Nat, s.heap.size ≤ q → A q := fun q h => by rw [hAe]; exact h
  have hbA : ¬ A b := by rw [hAe]; exact Nat.not_le.mpr hbl
  refine lv_aload_n hx hb dL_law_337 rfl (lv_at hl 2 rfl) ?_
  refine lv_aload_n hx hb dL_law_338 rfl (lv_at hl 3 rfl) ?_
  refine lv_iload_n hx hb dL_law_339 rfl (lv_at hl 0 rfl) ?_
  refine lv_iconst (v := 1) hx hb dL_law_340 (by decide) ?_
  refine lv_iadd hx hb dL_law_341 ?_
  refine lv_topi (fun x1 ex1 => ?_)
  obtain rfl : x1 = 1 := ex1.trans (by decide)
  refine z_sld hx hb hX hbl hbA hS (show ¬ ((1 : Int32) < 0 ∨ 6 ≤ (1 : Int32).toNatClampNeg) from by decide) (v := s1) es1 dL_law_342 ?_
  have hPc : va_P (dC, dI) vwCl (ws_h_cleaning cB cI cJ cZ cQ aHh aKh s1 fsaHh fsaKh) H := hP.sub [0, 1] rfl
  have hDc := hD.sub (ws' := (ws_h_cleaning cB cI cJ cZ cQ aHh aKh s1 fsaHh fsaKh)) [0, 1] (by decide) rfl
  have hFc := va_free (wc := (ws_h_cleaning cB cI cJ cZ cQ aHh aKh s1 fsaHh fsaKh)) hD hS hA [0, 1] rfl
  refine va_calli (va_runV (As := [.int s1]) (rest := []) ⟨hx, hb, hml, hown, hts⟩ (h_cleaning l dC dI cB cI cJ cZ cQ aHh aKh s1 fsaHh fsaKh H.size hlaHh haH_7h hlaKh) (cwV 1 hts gL_h_cleaning rfl rfl rfl (by decide +kernel) ⟨Nat.le_of_ble_eq_true rfl, Nat.le_of_ble_eq_true rfl⟩) ⟨zFB, va_recv hK hP (ci := 11) (q0 := 0) rfl rfl, fun U hU hW => zUp hU hW hPc hK hO hDc⟩ rfl rfl hl.1 rfl (lv_room (Nat.le_of_ble_eq_true rfl)) dL_law_343 ⟨Nat.le_of_ble_eq_true rfl, Nat.le_of_ble_eq_true rfl⟩) hS (fun q _ h => hFc q h) hFc (fun r2 u t H1 locs ht hvm hw3 hB hz1 hk1 hS => ?_)
  have hP1 : va_P (dC, dI) vwCl [] H1 := zNilP
  have hD1 : va_D (va_A (ws_h_cleaning cB cI cJ cZ cQ aHh aKh s1 fsaHh fsaKh) H.size) [] := zNilD
  obtain ⟨hP, hD⟩ := va_join (wr := [(aMm, .inr (12, fsaMm))]) (w1 := []) hP hD [0, 1] [2] rfl rfl (by decide) (by decide) hk1 hFc hP1 hD1
  generalize H1 = H at hP hS ⊢
  have hP : va_P (dC, dI) vwCl [(aMm, .inr (12, fsaMm))] H := hP
  have hD : va_D A [(aMm, .inr (12, fsaMm))] := hD
  refine lv_aload_n hx hb dL_law_346 rfl (lv_at hl 1 rfl) ?_
  refine lv_aload_n hx hb dL_law_347 rfl (lv_at hl 3 rfl) ?_
  refine lv_iload_n hx hb dL_law_348 rfl (lv_at hl 0 rfl) ?_
  refine lv_iconst (v := 1) hx hb dL_law_349 (by decide) ?_
  refine lv_iadd hx hb dL_law_350 ?_
  refine lv_topi (fun x4 ex4 => ?_)
  obtain rfl : x4 = 1 := ex4.trans (by decide)
  refine z_sld hx hb hX hbl hbA hS (show ¬ ((1 : Int32) < 0 ∨ 6 ≤ (1 : Int32).toNatClampNeg) from by decide) (v := s1) es1 dL_law_351 ?_
  have hPc : va_P (dC, dI) vwCl (ws_m_cleaning cB cI cJ cZ cQ aMm s1 fsaMm) H := hP.sub [0] rfl
  have hDc := hD.sub (ws' := (ws_m_cleaning cB cI cJ cZ cQ aMm s1 fsaMm)) [0] (by decide) rfl
  have hFc := va_free (wc := (ws_m_cleaning cB cI cJ cZ cQ aMm s1 fsaMm)) hD hS hA [0] rfl
  refine va_calli (va_runV (As := [.int s1]) (rest := [.int r2]) ⟨hx, hb, hml, hown, hts⟩ (m_cleaning l dC dI cB cI cJ cZ cQ aMm s1 fsaMm H.size hlaMm) (cwV 1 hts gL_m_cleaning rfl rfl rfl (by decide +kernel) ⟨Nat.le_of_ble_eq_true rfl, Nat.le_of_ble_eq_true rfl⟩) ⟨zFB, va_recv hK hP (ci := 12) (q0 := 0) rfl rfl, fun U hU hW => zUp hU hW hPc hK hO hDc⟩ rfl rfl hl.1 rfl (lv_room (Nat.le_of_ble_eq_true rfl)) dL_law_352 ⟨Nat.le_of_ble_eq_true rfl, Nat.le_of_ble_eq_true rfl⟩) hS (fun q _ h => hFc q h) hFc (fun r5 u t H1 locs ht hvm hw6 hB hz1 hk1 hS => ?_)
  have hP1 : va_P (dC, dI) vwCl [] H1 := zNilP
  have hD1 : va_D (va_A (ws_m_cleaning cB cI cJ cZ cQ aMm s1 fsaMm) H.size) [] := zNilD
  obtain ⟨hP, hD⟩ := va_join (wr := []) (w1 := []) hP hD [0] [] rfl rfl (by decide) (by decide) hk1 hFc hP1 hD1
  generalize H1 = H at hP hS ⊢
  have hP : va_P (dC, dI) vwCl [] H := hP
  have hD : va_D A [] := hD
  refine lv_icmp_eq (tgt := 888) hx hb dL_law_355 (by decide) (fun _ => ?_) (fun zc => absurd (hw3.trans hw6.symm) zc)
  refine lv_iinc (v := 6) (lv' := [(3, .int 6), (2, .ref aMm), (1, .ref aHh), (0, .ref b)]) hx hb dL_law_888 hl (k := 0) rfl (by decide) (by decide) rfl (fun ls hl => ?_)
  refine lv_goto (tgt := 18) hx hb dL_law_891 (by decide) ?_
  refine lv_iload_n hx hb dL_law_18 rfl (lv_at hl 0 rfl) ?_
  refine lv_aload_n hx hb dL_law_19 rfl (lv_at hl 3 rfl) ?_
  refine va_slen hx hb hX hbl hbA hS dL_law_20 ?_
  refine lv_topi (fun x7 ex7 => ?_)
  obtain rfl : x7 = 6 := ex7.trans (by decide)
  refine lv_bipush (v := 6) hx hb dL_law_21 (by decide) ?_
  refine lv_isub hx hb dL_law_23 ?_
  refine lv_topi (fun x8 ex8 => ?_)
  obtain rfl : x8 = 0 := ex8.trans (by decide)
  refine lv_icmp_gt (tgt := 894) hx hb dL_law_24 (by decide) (fun _ => ?_) (fun zc => absurd zc (by decide))
  refine lv_iconst (v := 1) hx hb dL_law_894 (by decide) ?_
  refine va_forget (fun q hq => by have := hS.2.2 q hq; rw [hAe] at this; exact this) ?_
  refine W.widen (k := 600000) (n := 7302250) (Nat.le_of_ble_eq_true rfl) (Nat.le_of_ble_eq_true rfl) ?_
  exact lw_ret hx hb hr hlocks dL_law_895
