set_option maxHeartbeats 4000000 in
set_option maxRecDepth 100000 in
theorem whole_start {p : Program} {e : Env} {s : State} {m : MethodId} {below : List Frame} {meth : Method} {c : Code} (l : Launch) {b L : Nat} {xs : Nat → Int32} (hL : L ≤ 6) (C0 : lw_At p s m meth c b L xs) : W p l e room_1 s m #[Value.ref b] below meth c s.heap [] 0 0 (lw_Z below #[Value.ref b] s) (entryFrame m ([Value.ref b] : List Value).toArray 4) := by
  obtain ⟨hx, hb, hr, hml, hown0, hts0, hX, hbl, hlocks, hgv⟩ := id C0
  have hts := hts0
  have hown : s.vm.findClass RL = some m.cls := hown0
  obtain ⟨A, hAe⟩ : ∃ A : Nat → Prop, A = (fun q : Nat => s.heap.size ≤ q) := ⟨_, rfl⟩
  have hA : ∀ q : Nat, s.heap.size ≤ q → A q := fun q h => by rw [hAe]; exact h
  have hbA : ¬ A b := by rw [hAe]; exact Nat.not_le.mpr hbl
  have hO : zAO s := (hts (.arrayOver (.array .int)) tw_851)
  obtain ⟨k0, j0, hKn0⟩ := u_known (C := RX0) (T := TX0) (N := 5) (n := 5) hts in_wsX00 (hts (.instantiable RX0 5) tw_774)
  obtain ⟨k1, j1, hKn1⟩ := u_known (C := RX1) (T := TX1) (N := 8) (n := 8) hts in_wsX10 (hts (.instantiable RX1 8) tw_762)
  obtain ⟨k2, j2, hKn2⟩ := u_known (C := RX2) (T := TX2) (N := 13) (n := 13) hts in_wsX20 (hts (.instantiable RX2 13) tw_768)
  obtain ⟨k3, j3, hKn3⟩ := u_known (C := RX3) (T := TX3) (N := 8) (n := 8) hts in_wsX30 (hts (.instantiable RX3 8) tw_752)
  obtain ⟨k4, j4, hKn4⟩ := u_known (C := RX4) (T := TX4) (N := 8) (n := 8) hts in_wsX40 (hts (.instantiable RX4 8) tw_782)
  obtain ⟨k5, j5, hKn5⟩ := u_known (C := RX5) (T := TX5) (N := 11) (n := 11) hts in_wsX50 (hts (.instantiable RX5 11) tw_786)
  obtain ⟨k6, j6, hKn6⟩ := u_known (C := RX6) (T := TX6) (N := 12) (n := 12) hts in_wsX60 (hts (.instantiable RX6 12) tw_758)
  obtain ⟨k7, j7, hKn7⟩ := u_known (C := RX7) (T := TX7) (N := 8) (n := 8) hts in_wsX70 (hts (.instantiable RX7 8) tw_770)
  obtain ⟨k8, j8, hKn8⟩ := u_known (C := RX8) (T := TX8) (N := 3) (n := 3) hts in_wsX80 (hts (.instantiable RX8 3) tw_778)
  obtain ⟨k9, j9, hKn9⟩ := u_known (C := RX9) (T := TX9) (N := 2) (n := 2) hts in_wsX90 (hts (.instantiable RX9 2) tw_794)
  obtain ⟨k10, j10, hKn10⟩ := u_known (C := RX10) (T := TX10) (N := 3) (n := 3) hts in_wsX100 (hts (.instantiable RX10 3) tw_790)
  obtain ⟨k11, j11, hKn11⟩ := u_known (C := RX11) (T := TX11) (N := 13) (n := 13) hts in_wsX110 (hts (.instantiable RX11 13) tw_854)
  obtain ⟨k12, j12, hKn12⟩ := u_known (C := RX12) (T := TX12) (N := 87) (n := 87) hts in_wsX120 (hts (.instantiable RX12 87) tw_853)
  obtain ⟨dC, dI, hKc⟩ : ∃ (dC : Nat → ClassId) (dI : Nat → Nat → Nat), ∀ (k : Nat) (q : vw_C), vwCl[k]? = some q → u_Kn s q.1 q.2.1 q.2.2 (dC k) (dI k) := by
    refine ⟨fun k => match k with | 0 => k0 | 1 => k1 | 2 => k2 | 3 => k3 | 4 => k4 | 5 => k5 | 6 => k6 | 7 => k7 | 8 => k8 | 9 => k9 | 10 => k10 | 11 => k11 | _ => k12, fun k => match k with | 0 => j0 | 1 => j1 | 2 => j2 | 3 => j3 | 4 => j4 | 5 => j5 | 6 => j6 | 7 => j7 | 8 => j8 | 9 => j9 | 10 => j10 | 11 => j11 | _ => j12, ?_⟩
    intro k q hq
    match k, hq with
    | 0, hq => cases hq; exact hKn0
    | 1, hq => cases hq; exact hKn1
    | 2, hq => cases hq; exact hKn2
    | 3, hq => cases hq; exact hKn3
    | 4, hq => cases hq; exact hKn4
    | 5, hq => cases hq; exact hKn5
    | 6, hq => cases hq; exact hKn6
    | 7, hq => cases hq; exact hKn7
    | 8, hq => cases hq; exact hKn8
    | 9, hq => cases hq; exact hKn9
    | 10, hq => cases hq; exact hKn10
    | 11, hq => cases hq; exact hKn11
    | 12, hq => cases hq; exact hKn12
    | k + 13, hq => simp [vwCl] at hq
  obtain ⟨cB, kkB, cmB, f1B, f2B, f3B⟩ := Cond.arrayClass_spec (hts (.arrayClass .byte) tw_674)
  obtain ⟨cI, kkI, cmI, f1I, f2I, f3I⟩ := Cond.arrayClass_spec (hts (.arrayClass .int) tw_680)
  obtain ⟨cJ, kkJ, cmJ, f1J, f2J, f3J⟩ := Cond.arrayClass_spec (hts (.arrayClass .long) tw_679)
  obtain ⟨cZ, kkZ, cmZ, f1Z, f2Z, f3Z⟩ := Cond.arrayClass_spec (hts (.arrayClass .boolean) tw_711)
  obtain ⟨cmQ, cQ, kkQ, -, -, f2Q, f3Q, f1Q⟩ := arrayOverA_spec hO
  have hK : va_K (dC, dI) vwCl (zTY cB cI cJ cZ cQ) s := by
    refine ⟨hKc, fun k q h => ?_⟩
    match k, h with
    | 0, h => cases h; exact ⟨fun n z => ⟨fun k h => (by cases h), kkB, f2B, cmB, f3B⟩, f1B⟩
    | 1, h => cases h; exact ⟨fun n z => ⟨fun k h => (by cases h), kkI, f2I, cmI, f3I⟩, f1I⟩
    | 2, h => cases h; exact ⟨fun n z => ⟨fun k h => (by cases h), kkJ, f2J, cmJ, f3J⟩, f1J⟩
    | 3, h => cases h; exact ⟨fun n z => ⟨fun k h => (by cases h), kkZ, f2Z, cmZ, f3Z⟩, f1Z⟩
    | 4, h => cases h; exact ⟨fun n z => ⟨fun k h => (by cases h), kkQ, f2Q, cmQ, f3Q⟩, f1Q⟩
    | k + 5, h => simp [zTY] at h
  have hP : va_P (dC, dI) vwCl [] s.heap := zNilP
  have hD : va_D A [] := zNilD
  have hS : va_S A s.heap s.heap [] := va_S.rf
  have hl := lv_entry ([.ref b]) (n := 4) (Nat.le_of_ble_eq_true rfl)
  rw [lg_entry_eq]
  generalize (lg_sl ([.ref b]) ++ List.replicate (4 - (lg_sl ([.ref b])).length) Slot.unset).toArray = ls at hl ⊢
  have hl : lv_has ls 4 [(0, .ref b)] := hl
  refine zH0 (fun H hP hS => ?_) hP hS
  refine va_new (ci := 11) (fs := [.null, .null, .null, .null, .null, .null, .null, .null, .null, .null, .null, .null, .int 0]) (C := RX11) (T := TX11) (N := 13) hx hb hts in_wsX110 tyX11 tyX11_ok hown (hts (.classLink RL 7 RX11) tw_855) (hts (.instantiable RX11 13) tw_854) (hts (.initialized RX11) tw_191) hK hP hD hS hA rfl (by decide +kernel) (Nat.le_of_ble_eq_true rfl) (Nat.le_of_ble_eq_true rfl) dL_law_0 (fun q1 H hP hD hS => ?_)
  have hP : va_P (dC, dI) vwCl [(q1, .inr (11, [.null, .null, .null, .null, .null, .null, .null, .null, .null, .null, .null, .null, .int 0]))] H := hP
  have hD : va_D A [(q1, .inr (11, [.null, .null, .null, .null, .null, .null, .null, .null, .null, .null, .null, .null, .int 0]))] := hD
  refine W.widen (k := 1) (n := 13) (Nat.le_of_ble_eq_true rfl) (Nat.le_of_ble_eq_true rfl) ?_
  refine lv_dup hx hb dL_law_3 rfl ?_
  have hPc : va_P (dC, dI) vwCl (ws_n_House cB cI cJ cZ cQ q1) H := hP.sub [0] rfl
  have hDc := hD.sub (ws' := (ws_n_House cB cI cJ cZ cQ q1)) [0] (by decide) rfl
  have hFc := va_free (wc := (ws_n_House cB cI cJ cZ cQ q1)) hD hS hA [0] rfl
  refine va_callv (va_runI (As := []) (rest := [.ref q1]) ⟨hx, hb, hml, hown, hts⟩ (n_House l dC dI cB cI cJ cZ cQ q1 H.size) (cwI 0 hts gL_n_House rfl rfl rfl (hts (.initialized RX11) tw_191) (hts (.methodLink RL 9 yX11_init) tw_848) (hts (.instanceMethod yX11_init) tw_850) rfl (by decide +kernel) ⟨Nat.le_of_ble_eq_true rfl, Nat.le_of_ble_eq_true rfl⟩) ⟨zFB, fun U hU hW => zUp hU hW hPc hK hO hDc⟩ rfl rfl hl.1 rfl (lv_room (Nat.le_of_ble_eq_true rfl)) dL_law_4 ⟨Nat.le_of_ble_eq_true rfl, Nat.le_of_ble_eq_true rfl⟩) hS (fun q _ h => hFc q h) hFc (fun u t H1 locs ht hvm hw3 hB hz1 hk1 hS => ?_)
  obtain ⟨e_tape4, eB5, e_tokens6, eS7, eP8, eV9, e_reader10, e_rails11, eId12, eRe13, e_stock14, eK15, ePk16, e_facts17, e_shows18, e_text19, e_keeper20, eA21, e822, eFr23, e_draft24, e_made25, e_trial26, fQ27, gs28, gs29, gs30, gs31, gs32, gs33, gs34, gs35, gs36, gs37, gs38, gs39, gs40, hgl41, hgk42, hgk43, hgk44, hgk45, hgk46, hgk47, hgk48, hgk49, hgk50, hgk51, hgk52, hgk53, hgl54, hgk55, hgk56, hgl57, hgk58, hgk59, hgk60, hgl61, hgk62, hgk63, hgl64, hgk65, hgk66, hgk67, hgk68, hgl69, hgk70, hgk71, hgk72, hgl73, hgk74, hgl75, hgk76, hgk77, hgl78, hgk79, hgl80, hgk81, hgk82, hgk83, hgk84, hgk85, hk86, hgl87, hgl88, hgl89, hP1, hD1⟩ := hB
  rw [ht] at hP1
  obtain ⟨hP, hD⟩ := va_join (wr := []) (w1 := [(q1, .inr (11, gs28)), (e_tape4, .inr (9, gs29)), (eB5, .inl (cB, 3000, .inl (fun _ => 0))), (e_tokens6, .inr (10, gs30)), (eS7, .inl (cI, 601, .inl (fun _ => 0))), (eP8, .inl (cI, 601, .inl (fun _ => 0))), (eV9, .inl (cJ, 601, .inr (.inl (fun _ => 0)))), (e_reader10, .inr (5, gs31)), (e_rails11, .inr (4, gs32)), (eId12, .inl (cJ, 16, .inr (.inl (fun _ => 0)))), (eRe13, .inl (cI, 6, .inl (fun _ => 0))), (e_stock14, .inr (8, gs33)), (eK15, .inl (cI, 20, .inl (fun _ => 0))), (ePk16, .inl (cI, 30, .inl (fun _ => 0))), (e_facts17, .inr (0, gs34)), (e_shows18, .inr (7, gs35)), (e_text19, .inr (2, gs36)), (e_keeper20, .inr (1, gs37)), (eA21, .inl (cQ, 9, .inr (.inr (.inr (.inr fQ27))))), (e822, .inl (cI, 6, .inl (fun _ => 0))), (eFr23, .inl (cI, 20, .inl (fun _ => 0))), (e_draft24, .inr (2, gs38)), (e_made25, .inr (3, gs39)), (e_trial26, .inr (3, gs40))]) hP hD [0] [] rfl rfl (by decide) (by decide) hk1 hFc hP1 hD1
  generalize H1 = H at hP hS ⊢
  have hP : va_P (dC, dI) vwCl [(q1, .inr (11, gs28)), (e_tape4, .inr (9, gs29)), (eB5, .inl (cB, 3000, .inl (fun _ => 0))), (e_tokens6, .inr (10, gs30)), (eS7, .inl (cI, 601, .inl (fun _ => 0))), (eP8, .inl (cI, 601, .inl (fun _ => 0))), (eV9, .inl (cJ, 601, .inr (.inl (fun _ => 0)))), (e_reader10, .inr (5, gs31)), (e_rails11, .inr (4, gs32)), (eId12, .inl (cJ, 16, .inr (.inl (fun _ => 0)))), (eRe13, .inl (cI, 6, .inl (fun _ => 0))), (e_stock14, .inr (8, gs33)), (eK15, .inl (cI, 20, .inl (fun _ => 0))), (ePk16, .inl (cI, 30, .inl (fun _ => 0))), (e_facts17, .inr (0, gs34)), (e_shows18, .inr (7, gs35)), (e_text19, .inr (2, gs36)), (e_keeper20, .inr (1, gs37)), (eA21, .inl (cQ, 9, .inr (.inr (.inr (.inr fQ27))))), (e822, .inl (cI, 6, .inl (fun _ => 0))), (eFr23, .inl (cI, 20, .inl (fun _ => 0))), (e_draft24, .inr (2, gs38)), (e_made25, .inr (3, gs39)), (e_trial26, .inr (3, gs40))] H := hP
  have hD : va_D A [(q1, .inr (11, gs28)), (e_tape4, .inr (9, gs29)), (eB5, .inl (cB, 3000, .inl (fun _ => 0))), (e_tokens6, .inr (10, gs30)), (eS7, .inl (cI, 601, .inl (fun _ => 0))), (eP8, .inl (cI, 601, .inl (fun _ => 0))), (eV9, .inl (cJ, 601, .inr (.inl (fun _ => 0)))), (e_reader10, .inr (5, gs31)), (e_rails11, .inr (4, gs32)), (eId12, .inl (cJ, 16, .inr (.inl (fun _ => 0)))), (eRe13, .inl (cI, 6, .inl (fun _ => 0))), (e_stock14, .inr (8, gs33)), (eK15, .inl (cI, 20, .inl (fun _ => 0))), (ePk16, .inl (cI, 30, .inl (fun _ => 0))), (e_facts17, .inr (0, gs34)), (e_shows18, .inr (7, gs35)), (e_text19, .inr (2, gs36)), (e_keeper20, .inr (1, gs37)), (eA21, .inl (cQ, 9, .inr (.inr (.inr (.inr fQ27))))), (e822, .inl (cI, 6, .inl (fun _ => 0))), (eFr23, .inl (cI, 20, .inl (fun _ => 0))), (e_draft24, .inr (2, gs38)), (e_made25, .inr (3, gs39)), (e_trial26, .inr (3, gs40))] := hD
  refine W.widen (k := 80) (n := 8555) (Nat.le_of_ble_eq_true rfl) (Nat.le_of_ble_eq_true rfl) ?_
  refine lv_astore_n (lv' := [(1, .ref q1), (0, .ref b)]) hx hb dL_law_7 rfl hl (by decide) rfl (fun ls hl => ?_)
  refine va_new (ci := 12) (fs := [.int 0, .null, .int 0, .null, .int 0, .null, .null, .null, .null, .null, .int 0, .int 0, .int 0, .int 0, .int 0, .int 0, .int 0, .int 0, .int 0, .int 0, .null, .null, .null, .null, .null, .null, .null, .null, .null, .null, .null, .null, .null, .null, .null, .null, .null, .null, .int 0, .null, .null, .null, .int 0, .int 0, .int 0, .null, .null, .null, .null, .int 0, .null, .int 0, .int 0, .null, .null, .null, .int 0, .null, .null, .int 0, .null, .null, .null, .null, .null, .null, .null, .null, .null, .int 0, .int 0, .null, .null, .null, .int 0, .int 0, .int 0, .int 0, .null, .null, .null, .null, .null, .null, .null, .int 0, .null]) (C := RX12) (T := TX12) (N := 87) hx hb hts in_wsX120 tyX12 tyX12_ok hown (hts (.classLink RL 10 RX12) tw_852) (hts (.instantiable RX12 87) tw_853) (hts (.initialized RX12) tw_198) hK hP hD hS hA rfl (by decide +kernel) (Nat.le_of_ble_eq_true rfl) (Nat.le_of_ble_eq_true rfl) dL_law_8 (fun q90 H hP hD hS => ?_)
  have hP : va_P (dC, dI) vwCl [(q1, .inr (11, gs28)), (e_tape4, .inr (9, gs29)), (eB5, .inl (cB, 3000, .inl (fun _ => 0))), (e_tokens6, .inr (10, gs30)), (eS7, .inl (cI, 601, .inl (fun _ => 0))), (eP8, .inl (cI, 601, .inl (fun _ => 0))), (eV9, .inl (cJ, 601, .inr (.inl (fun _ => 0)))), (e_reader10, .inr (5, gs31)), (e_rails11, .inr (4, gs32)), (eId12, .inl (cJ, 16, .inr (.inl (fun _ => 0)))), (eRe13, .inl (cI, 6, .inl (fun _ => 0))), (e_stock14, .inr (8, gs33)), (eK15, .inl (cI, 20, .inl (fun _ => 0))), (ePk16, .inl (cI, 30, .inl (fun _ => 0))), (e_facts17, .inr (0, gs34)), (e_shows18, .inr (7, gs35)), (e_text19, .inr (2, gs36)), (e_keeper20, .inr (1, gs37)), (eA21, .inl (cQ, 9, .inr (.inr (.inr (.inr fQ27))))), (e822, .inl (cI, 6, .inl (fun _ => 0))), (eFr23, .inl (cI, 20, .inl (fun _ => 0))), (e_draft24, .inr (2, gs38)), (e_made25, .inr (3, gs39)), (e_trial26, .inr (3, gs40)), (q90, .inr (12, [.int 0, .null, .int 0, .null, .int 0, .null, .null, .null, .null, .null, .int 0, .int 0, .int 0, .int 0, .int 0, .int 0, .int 0, .int 0, .int 0, .int 0, .null, .null, .null, .null, .null, .null, .null, .null, .null, .null, .null, .null, .null, .null, .null, .null, .null, .null, .int 0, .null, .null, .null, .int 0, .int 0, .int 0, .null, .null, .null, .null, .int 0, .null, .int 0, .int 0, .null, .null, .null, .int 0, .null, .null, .int 0, .null, .null, .null, .null, .null, .null, .null, .null, .null, .int 0, .int 0, .null, .null, .null, .int 0, .int 0, .int 0, .int 0, .null, .null, .null, .null, .null, .null, .null, .int 0, .null]))] H := hP
  have hD : va_D A [(q1, .inr (11, gs28)), (e_tape4, .inr (9, gs29)), (eB5, .inl (cB, 3000, .inl (fun _ => 0))), (e_tokens6, .inr (10, gs30)), (eS7, .inl (cI, 601, .inl (fun _ => 0))), (eP8, .inl (cI, 601, .inl (fun _ => 0))), (eV9, .inl (cJ, 601, .inr (.inl (fun _ => 0)))), (e_reader10, .inr (5, gs31)), (e_rails11, .inr (4, gs32)), (eId12, .inl (cJ, 16, .inr (.inl (fun _ => 0)))), (eRe13, .inl (cI, 6, .inl (fun _ => 0))), (e_stock14, .inr (8, gs33)), (eK15, .inl (cI, 20, .inl (fun _ => 0))), (ePk16, .inl (cI, 30, .inl (fun _ => 0))), (e_facts17, .inr (0, gs34)), (e_shows18, .inr (7, gs35)), (e_text19, .inr (2, gs36)), (e_keeper20, .inr (1, gs37)), (eA21, .inl (cQ, 9, .inr (.inr (.inr (.inr fQ27))))), (e822, .inl (cI, 6, .inl (fun _ => 0))), (eFr23, .inl (cI, 20, .inl (fun _ => 0))), (e_draft24, .inr (2, gs38)), (e_made25, .inr (3, gs39)), (e_trial26, .inr (3, gs40)), (q90, .inr (12, [.int 0, .null, .int 0, .null, .int 0, .null, .null, .null, .null, .null, .int 0, .int 0, .int 0, .int 0, .int 0, .int 0, .int 0, .int 0, .int 0, .int 0, .null, .null, .null, .null, .null, .null, .null, .null, .null, .null, .null, .null, .null, .null, .null, .null, .null, .null, .int 0, .null, .null, .null, .int 0, .int 0, .int 0, .null, .null, .null, .null, .int 0, .null, .int 0, .int 0, .null, .null, .null, .int 0, .null, .null, .int 0, .null, .null, .null, .null, .null, .null, .null, .null, .null, .int 0, .int 0, .null, .null, .null, .int 0, .int 0, .int 0, .int 0, .null, .null, .null, .null, .null, .null, .null, .int 0, .null]))] := hD
  refine W.widen (k := 81) (n := 8642) (Nat.le_of_ble_eq_true rfl) (Nat.le_of_ble_eq_true rfl) ?_
  refine lv_dup hx hb dL_law_11 rfl ?_
  have hPc : va_P (dC, dI) vwCl (ws_n_Model cB cI cJ cZ cQ q90) H := hP.sub [24] rfl
  have hDc := hD.sub (ws' := (ws_n_Model cB cI cJ cZ cQ q90)) [24] (by decide) rfl
  have hFc := va_free (wc := (ws_n_Model cB cI cJ cZ cQ q90)) hD hS hA [24] rfl
  refine va_callv (va_runI (As := []) (rest := [.ref q90]) ⟨hx, hb, hml, hown, hts⟩ (n_Model l dC dI cB cI cJ cZ cQ q90 H.size) (cwI 0 hts gL_n_Model rfl rfl rfl (hts (.initialized RX12) tw_198) (hts (.methodLink RL 12 yX12_init) tw_847) (hts (.instanceMethod yX12_init) tw_849) rfl (by decide +kernel) ⟨Nat.le_of_ble_eq_true rfl, Nat.le_of_ble_eq_true rfl⟩) ⟨zFB, fun U hU hW => zUp hU hW hPc hK hO hDc⟩ rfl rfl hl.1 rfl (lv_room (Nat.le_of_ble_eq_true rfl)) dL_law_12 ⟨Nat.le_of_ble_eq_true rfl, Nat.le_of_ble_eq_true rfl⟩) hS (fun q _ h => hFc q h) hFc (fun u t H1 locs ht hvm hw92 hB hz1 hk1 hS => ?_)
  obtain ⟨etape93, etKind94, etPlace95, etValue96, etName97, electures98, erelations99, ekind100, estill101, esoonest102, egets103, egetsAs104, egetsFrom105, egetsAt106, emadeGets107, emadeAs108, emadeFrom109, emadeAt110, gs111, hgl112, hgk113, hgk114, hgk115, hgk116, hgk117, hgk118, hgk119, hgk120, hgk121, hgk122, hgk123, hgk124, hgk125, hgk126, hgk127, hgk128, hgk129, hgk130, hgk131, hgk132, hgk133, hgk134, hgk135, hgk136, hgk137, hgk138, hgk139, hgk140, hP1, hD1⟩ := hB
  rw [ht] at hP1
  obtain ⟨hP, hD⟩ := va_join (wr := [(q1, .inr (11, gs28)), (e_tape4, .inr (9, gs29)), (eB5, .inl (cB, 3000, .inl (fun _ => 0))), (e_tokens6, .inr (10, gs30)), (eS7, .inl (cI, 601, .inl (fun _ => 0))), (eP8, .inl (cI, 601, .inl (fun _ => 0))), (eV9, .inl (cJ, 601, .inr (.inl (fun _ => 0)))), (e_reader10, .inr (5, gs31)), (e_rails11, .inr (4, gs32)), (eId12, .inl (cJ, 16, .inr (.inl (fun _ => 0)))), (eRe13, .inl (cI, 6, .inl (fun _ => 0))), (e_stock14, .inr (8, gs33)), (eK15, .inl (cI, 20, .inl (fun _ => 0))), (ePk16, .inl (cI, 30, .inl (fun _ => 0))), (e_facts17, .inr (0, gs34)), (e_shows18, .inr (7, gs35)), (e_text19, .inr (2, gs36)), (e_keeper20, .inr (1, gs37)), (eA21, .inl (cQ, 9, .inr (.inr (.inr (.inr fQ27))))), (e822, .inl (cI, 6, .inl (fun _ => 0))), (eFr23, .inl (cI, 20, .inl (fun _ => 0))), (e_draft24, .inr (2, gs38)), (e_made25, .inr (3, gs39)), (e_trial26, .inr (3, gs40))]) (w1 := [(q90, .inr (12, gs111)), (etape93, .inl (cB, 3000, .inl (fun _ => 0))), (etKind94, .inl (cI, 603, .inl (fun _ => 0))), (etPlace95, .inl (cI, 603, .inl (fun _ => 0))), (etValue96, .inl (cI, 603, .inl (fun _ => 0))), (etName97, .inl (cJ, 603, .inr (.inl (fun _ => 0)))), (electures98, .inl (cI, 2, .inl (fun _ => 0))), (erelations99, .inl (cI, 2, .inl (fun _ => 0))), (ekind100, .inl (cI, 20, .inl (fun _ => 0))), (estill101, .inl (cZ, 656, .inl (fun _ => 0))), (esoonest102, .inl (cI, 6, .inl (fun _ => 0))), (egets103, .inl (cI, 64, .inl (fun _ => 0))), (egetsAs104, .inl (cI, 64, .inl (fun _ => 0))), (egetsFrom105, .inl (cI, 64, .inl (fun _ => 0))), (egetsAt106, .inl (cI, 64, .inl (fun _ => 0))), (emadeGets107, .inl (cI, 64, .inl (fun _ => 0))), (emadeAs108, .inl (cI, 64, .inl (fun _ => 0))), (emadeFrom109, .inl (cI, 64, .inl (fun _ => 0))), (emadeAt110, .inl (cI, 64, .inl (fun _ => 0)))]) hP hD [24] [0, 1, 2, 3, 4, 5, 6, 7, 8, 9, 10, 11, 12, 13, 14, 15, 16, 17, 18, 19, 20, 21, 22, 23] rfl rfl (by decide) (by decide) hk1 hFc hP1 hD1
  generalize H1 = H at hP hS ⊢
  have hP : va_P (dC, dI) vwCl [(q1, .inr (11, gs28)), (e_tape4, .inr (9, gs29)), (eB5, .inl (cB, 3000, .inl (fun _ => 0))), (e_tokens6, .inr (10, gs30)), (eS7, .inl (cI, 601, .inl (fun _ => 0))), (eP8, .inl (cI, 601, .inl (fun _ => 0))), (eV9, .inl (cJ, 601, .inr (.inl (fun _ => 0)))), (e_reader10, .inr (5, gs31)), (e_rails11, .inr (4, gs32)), (eId12, .inl (cJ, 16, .inr (.inl (fun _ => 0)))), (eRe13, .inl (cI, 6, .inl (fun _ => 0))), (e_stock14, .inr (8, gs33)), (eK15, .inl (cI, 20, .inl (fun _ => 0))), (ePk16, .inl (cI, 30, .inl (fun _ => 0))), (e_facts17, .inr (0, gs34)), (e_shows18, .inr (7, gs35)), (e_text19, .inr (2, gs36)), (e_keeper20, .inr (1, gs37)), (eA21, .inl (cQ, 9, .inr (.inr (.inr (.inr fQ27))))), (e822, .inl (cI, 6, .inl (fun _ => 0))), (eFr23, .inl (cI, 20, .inl (fun _ => 0))), (e_draft24, .inr (2, gs38)), (e_made25, .inr (3, gs39)), (e_trial26, .inr (3, gs40)), (q90, .inr (12, gs111)), (etape93, .inl (cB, 3000, .inl (fun _ => 0))), (etKind94, .inl (cI, 603, .inl (fun _ => 0))), (etPlace95, .inl (cI, 603, .inl (fun _ => 0))), (etValue96, .inl (cI, 603, .inl (fun _ => 0))), (etName97, .inl (cJ, 603, .inr (.inl (fun _ => 0)))), (electures98, .inl (cI, 2, .inl (fun _ => 0))), (erelations99, .inl (cI, 2, .inl (fun _ => 0))), (ekind100, .inl (cI, 20, .inl (fun _ => 0))), (estill101, .inl (cZ, 656, .inl (fun _ => 0))), (esoonest102, .inl (cI, 6, .inl (fun _ => 0))), (egets103, .inl (cI, 64, .inl (fun _ => 0))), (egetsAs104, .inl (cI, 64, .inl (fun _ => 0))), (egetsFrom105, .inl (cI, 64, .inl (fun _ => 0))), (egetsAt106, .inl (cI, 64, .inl (fun _ => 0))), (emadeGets107, .inl (cI, 64, .inl (fun _ => 0))), (emadeAs108, .inl (cI, 64, .inl (fun _ => 0))), (emadeFrom109, .inl (cI, 64, .inl (fun _ => 0))), (emadeAt110, .inl (cI, 64, .inl (fun _ => 0)))] H := hP
  have hD : va_D A [(q1, .inr (11, gs28)), (e_tape4, .inr (9, gs29)), (eB5, .inl (cB, 3000, .inl (fun _ => 0))), (e_tokens6, .inr (10, gs30)), (eS7, .inl (cI, 601, .inl (fun _ => 0))), (eP8, .inl (cI, 601, .inl (fun _ => 0))), (eV9, .inl (cJ, 601, .inr (.inl (fun _ => 0)))), (e_reader10, .inr (5, gs31)), (e_rails11, .inr (4, gs32)), (eId12, .inl (cJ, 16, .inr (.inl (fun _ => 0)))), (eRe13, .inl (cI, 6, .inl (fun _ => 0))), (e_stock14, .inr (8, gs33)), (eK15, .inl (cI, 20, .inl (fun _ => 0))), (ePk16, .inl (cI, 30, .inl (fun _ => 0))), (e_facts17, .inr (0, gs34)), (e_shows18, .inr (7, gs35)), (e_text19, .inr (2, gs36)), (e_keeper20, .inr (1, gs37)), (eA21, .inl (cQ, 9, .inr (.inr (.inr (.inr fQ27))))), (e822, .inl (cI, 6, .inl (fun _ => 0))), (eFr23, .inl (cI, 20, .inl (fun _ => 0))), (e_draft24, .inr (2, gs38)), (e_made25, .inr (3, gs39)), (e_trial26, .inr (3, gs40)), (q90, .inr (12, gs111)), (etape93, .inl (cB, 3000, .inl (fun _ => 0))), (etKind94, .inl (cI, 603, .inl (fun _ => 0))), (etPlace95, .inl (cI, 603, .inl (fun _ => 0))), (etValue96, .inl (cI, 603, .inl (fun _ => 0))), (etName97, .inl (cJ, 603, .inr (.inl (fun _ => 0)))), (electures98, .inl (cI, 2, .inl (fun _ => 0))), (erelations99, .inl (cI, 2, .inl (fun _ => 0))), (ekind100, .inl (cI, 20, .inl (fun _ => 0))), (estill101, .inl (cZ, 656, .inl (fun _ => 0))), (esoonest102, .inl (cI, 6, .inl (fun _ => 0))), (egets103, .inl (cI, 64, .inl (fun _ => 0))), (egetsAs104, .inl (cI, 64, .inl (fun _ => 0))), (egetsFrom105, .inl (cI, 64, .inl (fun _ => 0))), (egetsAt106, .inl (cI, 64, .inl (fun _ => 0))), (emadeGets107, .inl (cI, 64, .inl (fun _ => 0))), (emadeAs108, .inl (cI, 64, .inl (fun _ => 0))), (emadeFrom109, .inl (cI, 64, .inl (fun _ => 0))), (emadeAt110, .inl (cI, 64, .inl (fun _ => 0)))] := hD
  refine W.widen (k := 139) (n := 25402) (Nat.le_of_ble_eq_true rfl) (Nat.le_of_ble_eq_true rfl) ?_
  refine lv_astore_n (lv' := [(2, .ref q90), (1, .ref q1), (0, .ref b)]) hx hb dL_law_15 rfl hl (by decide) rfl (fun ls hl => ?_)
  refine lv_iconst (v := 0) hx hb dL_law_16 (by decide) ?_
  refine lv_istore_n (lv' := [(3, .int 0), (2, .ref q90), (1, .ref q1), (0, .ref b)]) hx hb dL_law_17 rfl hl (by decide) rfl (fun ls hl => ?_)
  obtain rfl | rfl | rfl | rfl | rfl | rfl | rfl : L = 0 ∨ L = 1 ∨ L = 2 ∨ L = 3 ∨ L = 4 ∨ L = 5 ∨ L = 6 := by omega
  · skip
    refine lv_iload_n hx hb dL_law_18 rfl (lv_at hl 0 rfl) ?_
    refine lv_aload_n hx hb dL_law_19 rfl (lv_at hl 3 rfl) ?_
    refine va_slen hx hb hX hbl hbA hS dL_law_20 ?_
    refine lv_topi (fun x141 ex141 => ?_)
    obtain rfl : x141 = 0 := ex141.trans (by decide)
    refine lv_bipush (v := 6) hx hb dL_law_21 (by decide) ?_
    refine lv_isub hx hb dL_law_23 ?_
    refine lv_topi (fun x142 ex142 => ?_)
    obtain rfl : x142 = (-6) := ex142.trans (by decide)
    refine lv_icmp_gt (tgt := 894) hx hb dL_law_24 (by decide) (fun _ => ?_) (fun zc => absurd zc (by decide))
    refine lv_iconst (v := 1) hx hb dL_law_894 (by decide) ?_
    refine va_forget (fun q hq => by have := hS.2.2 q hq; rw [hAe] at this; exact this) ?_
    refine W.widen (k := 600000) (n := 7302250) (Nat.le_of_ble_eq_true rfl) (Nat.le_of_ble_eq_true rfl) ?_
    exact lw_ret hx hb hr hlocks dL_law_895
  · skip
    refine lv_iload_n hx hb dL_law_18 rfl (lv_at hl 0 rfl) ?_
    refine lv_aload_n hx hb dL_law_19 rfl (lv_at hl 3 rfl) ?_
    refine va_slen hx hb hX hbl hbA hS dL_law_20 ?_
    refine lv_topi (fun x143 ex143 => ?_)
    obtain rfl : x143 = 1 := ex143.trans (by decide)
    refine lv_bipush (v := 6) hx hb dL_law_21 (by decide) ?_
    refine lv_isub hx hb dL_law_23 ?_
    refine lv_topi (fun x144 ex144 => ?_)
    obtain rfl : x144 = (-5) := ex144.trans (by decide)
    refine lv_icmp_gt (tgt := 894) hx hb dL_law_24 (by decide) (fun _ => ?_) (fun zc => absurd zc (by decide))
    refine lv_iconst (v := 1) hx hb dL_law_894 (by decide) ?_
    refine va_forget (fun q hq => by have := hS.2.2 q hq; rw [hAe] at this; exact this) ?_
    refine W.widen (k := 600000) (n := 7302250) (Nat.le_of_ble_eq_true rfl) (Nat.le_of_ble_eq_true rfl) ?_
    exact lw_ret hx hb hr hlocks dL_law_895
  · skip
    refine lv_iload_n hx hb dL_law_18 rfl (lv_at hl 0 rfl) ?_
    refine lv_aload_n hx hb dL_law_19 rfl (lv_at hl 3 rfl) ?_
    refine va_slen hx hb hX hbl hbA hS dL_law_20 ?_
    refine lv_topi (fun x145 ex145 => ?_)
    obtain rfl : x145 = 2 := ex145.trans (by decide)
    refine lv_bipush (v := 6) hx hb dL_law_21 (by decide) ?_
    refine lv_isub hx hb dL_law_23 ?_
    refine lv_topi (fun x146 ex146 => ?_)
    obtain rfl : x146 = (-4) := ex146.trans (by decide)
    refine lv_icmp_gt (tgt := 894) hx hb dL_law_24 (by decide) (fun _ => ?_) (fun zc => absurd zc (by decide))
    refine lv_iconst (v := 1) hx hb dL_law_894 (by decide) ?_
    refine va_forget (fun q hq => by have := hS.2.2 q hq; rw [hAe] at this; exact this) ?_
    refine W.widen (k := 600000) (n := 7302250) (Nat.le_of_ble_eq_true rfl) (Nat.le_of_ble_eq_true rfl) ?_
    exact lw_ret hx hb hr hlocks dL_law_895
  · skip
    refine lv_iload_n hx hb dL_law_18 rfl (lv_at hl 0 rfl) ?_
    refine lv_aload_n hx hb dL_law_19 rfl (lv_at hl 3 rfl) ?_
    refine va_slen hx hb hX hbl hbA hS dL_law_20 ?_
    refine lv_topi (fun x147 ex147 => ?_)
    obtain rfl : x147 = 3 := ex147.trans (by decide)
    refine lv_bipush (v := 6) hx hb dL_law_21 (by decide) ?_
    refine lv_isub hx hb dL_law_23 ?_
    refine lv_topi (fun x148 ex148 => ?_)
    obtain rfl : x148 = (-3) := ex148.trans (by decide)
    refine lv_icmp_gt (tgt := 894) hx hb dL_law_24 (by decide) (fun _ => ?_) (fun zc => absurd zc (by decide))
    refine lv_iconst (v := 1) hx hb dL_law_894 (by decide) ?_
    refine va_forget (fun q hq => by have := hS.2.2 q hq; rw [hAe] at this; exact this) ?_
    refine W.widen (k := 600000) (n := 7302250) (Nat.le_of_ble_eq_true rfl) (Nat.le_of_ble_eq_true rfl) ?_
    exact lw_ret hx hb hr hlocks dL_law_895
  · skip
    refine lv_iload_n hx hb dL_law_18 rfl (lv_at hl 0 rfl) ?_
    refine lv_aload_n hx hb dL_law_19 rfl (lv_at hl 3 rfl) ?_
    refine va_slen hx hb hX hbl hbA hS dL_law_20 ?_
    refine lv_topi (fun x149 ex149 => ?_)
    obtain rfl : x149 = 4 := ex149.trans (by decide)
    refine lv_bipush (v := 6) hx hb dL_law_21 (by decide) ?_
    refine lv_isub hx hb dL_law_23 ?_
    refine lv_topi (fun x150 ex150 => ?_)
    obtain rfl : x150 = (-2) := ex150.trans (by decide)
    refine lv_icmp_gt (tgt := 894) hx hb dL_law_24 (by decide) (fun _ => ?_) (fun zc => absurd zc (by decide))
    refine lv_iconst (v := 1) hx hb dL_law_894 (by decide) ?_
    refine va_forget (fun q hq => by have := hS.2.2 q hq; rw [hAe] at this; exact this) ?_
    refine W.widen (k := 600000) (n := 7302250) (Nat.le_of_ble_eq_true rfl) (Nat.le_of_ble_eq_true rfl) ?_
    exact lw_ret hx hb hr hlocks dL_law_895
  · skip
    refine lv_iload_n hx hb dL_law_18 rfl (lv_at hl 0 rfl) ?_
    refine lv_aload_n hx hb dL_law_19 rfl (lv_at hl 3 rfl) ?_
    refine va_slen hx hb hX hbl hbA hS dL_law_20 ?_
    refine lv_topi (fun x151 ex151 => ?_)
    obtain rfl : x151 = 5 := ex151.trans (by decide)
    refine lv_bipush (v := 6) hx hb dL_law_21 (by decide) ?_
    refine lv_isub hx hb dL_law_23 ?_
    refine lv_topi (fun x152 ex152 => ?_)
    obtain rfl : x152 = (-1) := ex152.trans (by decide)
    refine lv_icmp_gt (tgt := 894) hx hb dL_law_24 (by decide) (fun _ => ?_) (fun zc => absurd zc (by decide))
    refine lv_iconst (v := 1) hx hb dL_law_894 (by decide) ?_
    refine va_forget (fun q hq => by have := hS.2.2 q hq; rw [hAe] at this; exact this) ?_
    refine W.widen (k := 600000) (n := 7302250) (Nat.le_of_ble_eq_true rfl) (Nat.le_of_ble_eq_true rfl) ?_
    exact lw_ret hx hb hr hlocks dL_law_895
  · skip
    obtain ⟨s0, es0⟩ : ∃ y, xs (0 : Int32).toNatClampNeg = y := ⟨_, rfl⟩
    refine lv_iload_n hx hb dL_law_18 rfl (lv_at hl 0 rfl) ?_
    refine lv_aload_n hx hb dL_law_19 rfl (lv_at hl 3 rfl) ?_
    refine va_slen hx hb hX hbl hbA hS dL_law_20 ?_
    refine lv_topi (fun x153 ex153 => ?_)
    obtain rfl : x153 = 6 := ex153.trans (by decide)
    refine lv_bipush (v := 6) hx hb dL_law_21 (by decide) ?_
    refine lv_isub hx hb dL_law_23 ?_
    refine lv_topi (fun x154 ex154 => ?_)
    obtain rfl : x154 = 0 := ex154.trans (by decide)
    refine lv_icmp_gt (tgt := 894) hx hb dL_law_24 (by decide) (fun zc => absurd zc (by decide)) (fun _ => ?_)
    refine lv_aload_n hx hb dL_law_27 rfl (lv_at hl 3 rfl) ?_
    refine lv_iload_n hx hb dL_law_28 rfl (lv_at hl 0 rfl) ?_
    refine z_sld hx hb hX hbl hbA hS (show ¬ ((0 : Int32) < 0 ∨ 6 ≤ (0 : Int32).toNatClampNeg) from by decide) (v := s0) es0 dL_law_29 ?_
    refine lv_bipush (v := 31) hx hb dL_law_30 (by decide) ?_
    refine lv_iand hx hb dL_law_32 ?_
    refine lv_topi (fun x155 ex155 => ?_)
    rcases z_tab21 x155 with rfl | rfl | rfl | rfl | rfl | rfl | rfl | rfl | rfl | rfl | rfl | rfl | rfl | rfl | rfl | rfl | rfl | rfl | rfl | rfl | rfl | rfl | hout
    · refine lv_tableIn (off := 103) (tgt := 136) hx hb dL_law_33 (by decide) (by decide) (by decide) (by decide) ?_
      exact lc_feed l C0 dC dI cB cI cJ cZ cQ hK hO A hAe q1 e_tape4 eB5 q90 etape93 (fun _ => 0) (fun _ => 0) gs28 gs29 gs111 hgl41 hgk42 hgl54 hgk55 hgk56 hgl112 hgk113 hgk114 _ _ _ _ _ rfl rfl rfl rfl rfl H _ ls (hP.sub [0, 1, 2, 24, 25] rfl) (hD.sub [0, 1, 2, 24, 25] (by decide) rfl) hS (lv_sub hl [0, 1, 2, 3] rfl)
    · refine lv_tableIn (off := 166) (tgt := 199) hx hb dL_law_33 (by decide) (by decide) (by decide) (by decide) ?_
      exact lc_back l C0 dC dI cB cI cJ cZ cQ hK hO A hAe q1 e_tape4 q90  gs28 gs29 gs111 hgl41 hgk42 hgl54 hgk56 hgl112 hgk114 _ _ _ _ _ rfl rfl rfl rfl rfl H _ ls (hP.sub [0, 1, 24] rfl) (hD.sub [0, 1, 24] (by decide) rfl) hS (lv_sub hl [0, 1, 2, 3] rfl)
    · refine lv_tableIn (off := 189) (tgt := 222) hx hb dL_law_33 (by decide) (by decide) (by decide) (by decide) ?_
      exact lc_read l C0 dC dI cB cI cJ cZ cQ hK hO A hAe q1 e_tape4 e_tokens6 eS7 eP8 eV9 e_reader10 e_shows18 e_draft24 q90 etKind94 etPlace95 etValue96 etName97 electures98 erelations99 e_text19 (fun _ => 0) (fun _ => 0) (fun _ => 0) (fun _ => 0) (fun _ => 0) (fun _ => 0) (fun _ => 0) (fun _ => 0) (fun _ => 0) gs28 gs29 gs30 gs31 gs35 gs38 gs111 hgl41 hgk42 hgk43 hgk44 hgk48 hgk50 hgl54 hgk56 hgl57 hgk58 hgk59 hgk60 hgl61 hgk62 hgl75 hgk77 hgl87 hgl112 hgk114 hgk115 hgk116 hgk117 hgk118 hgk120 hgk121 hgk122 _ _ _ _ _ rfl rfl rfl rfl rfl H _ ls (hP.sub [0, 1, 3, 4, 5, 6, 7, 15, 21, 24, 26, 27, 28, 29, 30, 31] rfl) (hD.sub [0, 1, 3, 4, 5, 6, 7, 15, 21, 24, 26, 27, 28, 29, 30, 31] (by decide) rfl) hS (lv_sub hl [0, 1, 2, 3] rfl)
    · refine lv_tableIn (off := 202) (tgt := 235) hx hb dL_law_33 (by decide) (by decide) (by decide) (by decide) ?_
      exact lc_place l C0 dC dI cB cI cJ cZ cQ hK hO A hAe q1 e_reader10 q90  gs28 gs31 gs111 hgl41 hgk44 hgl61 hgk63 hgl112 hgk119 _ _ _ _ _ rfl rfl rfl rfl rfl H _ ls (hP.sub [0, 7, 24] rfl) (hD.sub [0, 7, 24] (by decide) rfl) hS (lv_sub hl [0, 1, 2, 3] rfl)
    · refine lv_tableIn (off := 215) (tgt := 248) hx hb dL_law_33 (by decide) (by decide) (by decide) (by decide) ?_
      exact lc_hall l C0 dC dI cB cI cJ cZ cQ hK hO A hAe q1 e_rails11 q90  gs28 gs32 gs111 hgl41 hgk45 hgl64 hgk67 hgl112 hgk123 _ _ _ _ _ rfl rfl rfl rfl rfl H _ ls (hP.sub [0, 8, 24] rfl) (hD.sub [0, 8, 24] (by decide) rfl) hS (lv_sub hl [0, 1, 2, 3] rfl)
    · refine lv_tableIn (off := 228) (tgt := 261) hx hb dL_law_33 (by decide) (by decide) (by decide) (by decide) ?_
      exact lc_train l C0 dC dI cB cI cJ cZ cQ hK hO A hAe q1 e_rails11 q90  gs28 gs32 gs111 hgl41 hgk45 hgl64 hgk67 hgk68 hgl112 hgk123 hgk124 _ _ _ _ _ rfl rfl rfl rfl rfl H _ ls (hP.sub [0, 8, 24] rfl) (hD.sub [0, 8, 24] (by decide) rfl) hS (lv_sub hl [0, 1, 2, 3] rfl)
    · refine lv_tableIn (off := 281) (tgt := 314) hx hb dL_law_33 (by decide) (by decide) (by decide) (by decide) ?_
      exact lc_plate l C0 dC dI cB cI cJ cZ cQ hK hO A hAe q1 e_stock14 eK15 ePk16 q90 ekind100 (fun _ => 0) (fun _ => 0) (fun _ => 0) gs28 gs33 gs111 hgl41 hgk46 hgl69 hgk70 hgk71 hgk72 hgl112 hgk125 hgk126 _ _ _ _ _ rfl rfl rfl rfl rfl H _ ls (hP.sub [0, 11, 12, 13, 24, 32] rfl) (hD.sub [0, 11, 12, 13, 24, 32] (by decide) rfl) hS (lv_sub hl [0, 1, 2, 3] rfl)
    · refine lv_tableIn (off := 304) (tgt := 337) hx hb dL_law_33 (by decide) (by decide) (by decide) (by decide) ?_
      exact lc_cleaning l C0 dC dI cB cI cJ cZ cQ hK hO A hAe q1 e_keeper20 q90  gs28 gs37 gs111 hgl41 hgk49 hgl80 hgl112 _ _ _ _ _ rfl rfl rfl rfl rfl H _ ls (hP.sub [0, 17, 24] rfl) (hD.sub [0, 17, 24] (by decide) rfl) hS (lv_sub hl [0, 1, 2, 3] rfl)
    · refine lv_tableIn (off := 327) (tgt := 360) hx hb dL_law_33 (by decide) (by decide) (by decide) (by decide) ?_
      exact lc_cancel l C0 dC dI cB cI cJ cZ cQ hK hO A hAe q1 e_rails11 q90  gs28 gs32 gs111 hgl41 hgk45 hgl64 hgk68 hgl112 hgk124 hgk127 _ _ _ _ _ rfl rfl rfl rfl rfl H _ ls (hP.sub [0, 8, 24] rfl) (hD.sub [0, 8, 24] (by decide) rfl) hS (lv_sub hl [0, 1, 2, 3] rfl)
    · refine lv_tableIn (off := 360) (tgt := 393) hx hb dL_law_33 (by decide) (by decide) (by decide) (by decide) ?_
      exact lc_look l C0 dC dI cB cI cJ cZ cQ hK hO A hAe q1 e_stock14 q90  gs28 gs33 gs111 hgl41 hgk46 hgl69 hgk72 hgl112 hgk125 hgk127 _ _ _ _ _ rfl rfl rfl rfl rfl H _ ls (hP.sub [0, 11, 24] rfl) (hD.sub [0, 11, 24] (by decide) rfl) hS (lv_sub hl [0, 1, 2, 3] rfl)
    · refine lv_tableIn (off := 419) (tgt := 452) hx hb dL_law_33 (by decide) (by decide) (by decide) (by decide) ?_
      exact lc_show l C0 dC dI cB cI cJ cZ cQ hK hO A hAe q1 e_rails11 e_shows18 e_text19 q90 electures98 (fun _ => 0) gs28 gs32 gs35 gs36 gs111 hgl41 hgk45 hgk48 hgl64 hgk67 hgl75 hgk76 hgk77 hgl78 hgk79 hgl112 hgk120 hgk121 hgk123 hgk131 rfl _ _ _ _ _ rfl rfl rfl rfl rfl H _ ls (hP.sub [0, 8, 15, 16, 24, 30] rfl) (hD.sub [0, 8, 15, 16, 24, 30] (by decide) rfl) hS (lv_sub hl [0, 1, 2, 3] rfl)
    · refine lv_tableIn (off := 482) (tgt := 515) hx hb dL_law_33 (by decide) (by decide) (by decide) (by decide) ?_
      exact lc_way l C0 dC dI cB cI cJ cZ cQ hK hO A hAe q1 e_rails11 eId12 eRe13 e_facts17 q90 estill101 esoonest102 (fun _ => 0) (fun _ => 0) (fun _ => 0) (fun _ => 0) gs28 gs32 gs34 gs111 hgl41 hgk45 hgk47 hgl64 hgk65 hgk66 hgk67 hgk68 hgl73 hgk74 hgl112 hgk123 hgk124 hgk127 hgk128 hgk129 hgk130 _ _ _ _ _ rfl rfl rfl rfl rfl H _ ls (hP.sub [0, 8, 9, 10, 14, 24, 33, 34] rfl) (hD.sub [0, 8, 9, 10, 14, 24, 33, 34] (by decide) rfl) hS (lv_sub hl [0, 1, 2, 3] rfl)
    · refine lv_tableIn (off := 535) (tgt := 568) hx hb dL_law_33 (by decide) (by decide) (by decide) (by decide) ?_
      exact lc_broken l C0 dC dI cB cI cJ cZ cQ hK hO A hAe q1 e_stock14 q90  gs28 gs33 gs111 hgl41 hgk46 hgl69 hgk72 hgl112 hgk125 _ _ _ _ _ rfl rfl rfl rfl rfl H _ ls (hP.sub [0, 11, 24] rfl) (hD.sub [0, 11, 24] (by decide) rfl) hS (lv_sub hl [0, 1, 2, 3] rfl)
    · refine lv_tableIn (off := 578) (tgt := 611) hx hb dL_law_33 (by decide) (by decide) (by decide) (by decide) ?_
      exact lc_can l C0 dC dI cB cI cJ cZ cQ hK hO A hAe q1 e_facts17 e_shows18 e_keeper20 e_rails11 eId12 eA21 e822 eFr23 e_trial26 q90 estill101 (fun _ => 0) fQ27 (fun _ => 0) (fun _ => 0) (fun _ => 0) gs28 gs34 gs35 gs37 gs32 gs40 gs111 hgl41 hgk47 hgk48 hgk49 hgk52 hgl73 hgk74 hgl75 hgk76 hgl80 hgk81 hgk82 hgk83 hgk84 hgk85 hgl64 hgk65 hgk68 hk86 hgl89 hgl112 hgk125 hgk127 hgk128 hgk129 hgk131 _ _ _ _ _ rfl rfl rfl rfl rfl H _ ls (hP.sub [0, 14, 15, 17, 8, 9, 18, 19, 20, 23, 24, 33] rfl) (hD.sub [0, 14, 15, 17, 8, 9, 18, 19, 20, 23, 24, 33] (by decide) rfl) hS (lv_sub hl [0, 1, 2, 3] rfl)
    · refine lv_tableIn (off := 611) (tgt := 644) hx hb dL_law_33 (by decide) (by decide) (by decide) (by decide) ?_
      exact lc_make l C0 dC dI cB cI cJ cZ cQ hK hO A hAe q1 e_facts17 e_shows18 e_keeper20 e_rails11 eId12 eA21 e822 eFr23 e_made25 q90 estill101 egets103 egetsAs104 egetsFrom105 egetsAt106 emadeGets107 emadeAs108 emadeFrom109 emadeAt110 (fun _ => 0) fQ27 (fun _ => 0) (fun _ => 0) (fun _ => 0) (fun _ => 0) (fun _ => 0) (fun _ => 0) (fun _ => 0) (fun _ => 0) (fun _ => 0) (fun _ => 0) (fun _ => 0) gs28 gs34 gs35 gs37 gs32 gs39 gs111 hgl41 hgk47 hgk48 hgk49 hgk51 hgl73 hgk74 hgl75 hgk76 hgl80 hgk81 hgk82 hgk83 hgk84 hgk85 hgl64 hgk65 hgk68 hk86 hgl88 hgl112 hgk125 hgk127 hgk128 hgk129 hgk131 hgk132 hgk133 hgk134 hgk135 hgk137 hgk138 hgk139 hgk140 _ _ _ _ _ rfl rfl rfl rfl rfl H _ ls (hP.sub [0, 14, 15, 17, 8, 9, 18, 19, 20, 22, 24, 33, 35, 36, 37, 38, 39, 40, 41, 42] rfl) (hD.sub [0, 14, 15, 17, 8, 9, 18, 19, 20, 22, 24, 33, 35, 36, 37, 38, 39, 40, 41, 42] (by decide) rfl) hS (lv_sub hl [0, 1, 2, 3] rfl)
    · refine lv_tableIn (off := 634) (tgt := 667) hx hb dL_law_33 (by decide) (by decide) (by decide) (by decide) ?_
      exact lc_mend l C0 dC dI cB cI cJ cZ cQ hK hO A hAe q1 q90  gs28 gs111 hgl41 hgk53 hgl112 hgk136 _ _ _ _ _ rfl rfl rfl rfl rfl H _ ls (hP.sub [0, 24] rfl) (hD.sub [0, 24] (by decide) rfl) hS (lv_sub hl [0, 1, 2, 3] rfl)
    · refine lv_tableIn (off := 657) (tgt := 690) hx hb dL_law_33 (by decide) (by decide) (by decide) (by decide) ?_
      exact lc_told l C0 dC dI cB cI cJ cZ cQ hK hO A hAe q1 e_shows18 q90  gs28 gs35 gs111 hgl41 hgk48 hgl75 hgk76 hgl112 hgk131 _ _ _ _ _ rfl rfl rfl rfl rfl H _ ls (hP.sub [0, 15, 24] rfl) (hD.sub [0, 15, 24] (by decide) rfl) hS (lv_sub hl [0, 1, 2, 3] rfl)
    · refine lv_tableIn (off := 690) (tgt := 723) hx hb dL_law_33 (by decide) (by decide) (by decide) (by decide) ?_
      exact lc_cue l C0 dC dI cB cI cJ cZ cQ hK hO A hAe q1 q90  gs28 gs111 hgl41 hgk53 hgl112 hgk131 _ _ _ _ _ rfl rfl rfl rfl rfl H _ ls (hP.sub [0, 24] rfl) (hD.sub [0, 24] (by decide) rfl) hS (lv_sub hl [0, 1, 2, 3] rfl)
    · refine lv_tableIn (off := 733) (tgt := 766) hx hb dL_law_33 (by decide) (by decide) (by decide) (by decide) ?_
      exact lc_showing l C0 dC dI cB cI cJ cZ cQ hK hO A hAe q1 q90  gs28 gs111 hgl41 hgk53 hgl112 hgk131 _ _ _ _ _ rfl rfl rfl rfl rfl H _ ls (hP.sub [0, 24] rfl) (hD.sub [0, 24] (by decide) rfl) hS (lv_sub hl [0, 1, 2, 3] rfl)
    · refine lv_tableIn (off := 766) (tgt := 799) hx hb dL_law_33 (by decide) (by decide) (by decide) (by decide) ?_
      exact lc_blame l C0 dC dI cB cI cJ cZ cQ hK hO A hAe q1 q90  gs28 gs111 hgl41 hgk53 hgl112 hgk125 _ _ _ _ _ rfl rfl rfl rfl rfl H _ ls (hP.sub [0, 24] rfl) (hD.sub [0, 24] (by decide) rfl) hS (lv_sub hl [0, 1, 2, 3] rfl)
    · refine lv_tableIn (off := 799) (tgt := 832) hx hb dL_law_33 (by decide) (by decide) (by decide) (by decide) ?_
      exact lc_where l C0 dC dI cB cI cJ cZ cQ hK hO A hAe q1 q90  gs28 gs111 hgl41 hgk53 hgl112 hgk125 _ _ _ _ _ rfl rfl rfl rfl rfl H _ ls (hP.sub [0, 24] rfl) (hD.sub [0, 24] (by decide) rfl) hS (lv_sub hl [0, 1, 2, 3] rfl)
    · refine lv_tableIn (off := 832) (tgt := 865) hx hb dL_law_33 (by decide) (by decide) (by decide) (by decide) ?_
      exact lc_count l C0 dC dI cB cI cJ cZ cQ hK hO A hAe q1 e_rails11 e_stock14 e_facts17 e_shows18 e_text19 e_tape4 q90 electures98 (fun _ => 0) gs28 gs32 gs33 gs34 gs35 gs36 gs29 gs111 hgl41 hgk42 hgk45 hgk46 hgk47 hgk48 hgk53 hgl64 hgk67 hgk68 hgl69 hgk72 hgl73 hgk74 hgl75 hgk76 hgk77 hgl78 hgk79 hgl54 hgk56 hgl112 hgk114 hgk120 hgk121 hgk123 hgk124 hgk125 hgk127 hgk131 hgk136 rfl _ _ _ _ _ rfl rfl rfl rfl rfl H _ ls (hP.sub [0, 8, 11, 14, 15, 16, 1, 24, 30] rfl) (hD.sub [0, 8, 11, 14, 15, 16, 1, 24, 30] (by decide) rfl) hS (lv_sub hl [0, 1, 2, 3] rfl)
    · refine lv_tableOut (tgt := 888) hx hb dL_law_33 hout (by decide) ?_
      refine lv_iinc (v := 6) (lv' := [(3, .int 6), (2, .ref q90), (1, .ref q1), (0, .ref b)]) hx hb dL_law_888 hl (k := 0) rfl (by decide) (by decide) rfl (fun ls hl => ?_)
      refine lv_goto (tgt := 18) hx hb dL_law_891 (by decide) ?_
      refine lv_iload_n hx hb dL_law_18 rfl (lv_at hl 0 rfl) ?_
      refine lv_aload_n hx hb dL_law_19 rfl (lv_at hl 3 rfl) ?_
      refine va_slen hx hb hX hbl hbA hS dL_law_20 ?_
      refine lv_topi (fun x156 ex156 => ?_)
      obtain rfl : x156 = 6 := ex156.trans (by decide)
      refine lv_bipush (v := 6) hx hb dL_law_21 (by decide) ?_
      refine lv_isub hx hb dL_law_23 ?_
      refine lv_topi (fun x157 ex157 => ?_)
      obtain rfl : x157 = 0 := ex157.trans (by decide)
      refine lv_icmp_gt (tgt := 894) hx hb dL_law_24 (by decide) (fun _ => ?_) (fun zc => absurd zc (by decide))
      refine lv_iconst (v := 1) hx hb dL_law_894 (by decide) ?_
      refine va_forget (fun q hq => by have := hS.2.2 q hq; rw [hAe] at this; exact this) ?_
      refine W.widen (k := 600000) (n := 7302250) (Nat.le_of_ble_eq_true rfl) (Nat.le_of_ble_eq_true rfl) ?_
      exact lw_ret hx hb hr hlocks dL_law_895
