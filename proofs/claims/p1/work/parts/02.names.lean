/-! ===== BEGIN words of one list among another's, by their places ===== -/
theorem goodIn_r {big : List Cond} (ws : List Cond) (ps : List Nat) (hp : ws = ps.filterMap (fun i => big[i]?)) (h : ws.all goodWord = true) : GoodIn big ws := by
  intro w hw
  have h1 := List.all_eq_true.mp h w hw
  rw [hp] at hw
  obtain ⟨i, -, hi⟩ := List.mem_filterMap.mp hw
  have hm : w ∈ big := by first | exact List.mem_of_getElem? hi | exact List.getElem?_mem hi
  exact ⟨hm, good_of_word h1⟩
theorem goodIn_app {big a b : List Cond} (ha : GoodIn big a) (hb : GoodIn big b) : GoodIn big (a ++ b) := fun w h => (List.mem_append.mp h).elim (ha w) (hb w)
theorem goodIn_ca {big a b : List Cond} {c : Cond} (ha : GoodIn big (c :: a)) (hb : GoodIn big b) : GoodIn big (c :: (a ++ b)) := fun w h => (List.mem_cons.mp h).elim (fun e => ha w (List.mem_cons.mpr (Or.inl e))) (fun h => (List.mem_append.mp h).elim (fun h => ha w (List.mem_cons.mpr (Or.inr h))) (hb w))
theorem goodIn_sub {big ws : List Cond} (hm : ∀ w ∈ ws, w ∈ big) (h : ws.all goodWord = true) : GoodIn big ws := fun w hw => ⟨hm w hw, good_of_word (List.all_eq_true.mp h w hw)⟩
/-! ===== END ===== -/

/-! ===== BEGIN new T[n][m]: the outer array a place, the inner ones among the pooled ===== -/
/-- f, but v at every address of l -/
def vr_up {α : Type} (f : Nat → α) (l : List Nat) (v : α) : Nat → α := fun a => if a ∈ l then v else f a
theorem vr_up_in {α : Type} {f : Nat → α} {l : List Nat} {v : α} {a : Nat} (h : a ∈ l) : vr_up f l v a = v := if_pos h
theorem vr_up_ne {α : Type} {f : Nat → α} {l : List Nat} {v : α} {a : Nat} (h : a ∉ l) : vr_up f l v a = f a := if_neg h
theorem vr_rows {L l : List Nat} {f : Nat → va_E} {e : va_E} (h : ∀ a, a ∈ l → a ∉ L) : va_pl L f ++ l.map (fun a => (a, e)) = va_pl (L ++ l) (vr_up f l e) := by
  unfold va_pl
  rw [List.map_append]
  congr 1
  · apply List.map_congr_left
    intro a ha
    rw [vr_up_ne (fun q => h a q ha)]
  · apply List.map_congr_left
    intro a ha
    rw [vr_up_in ha]
theorem vr_lay {X rows : va_W} {x : Nat × va_E} {pl : va_W} {D : va_G} {cl : List vw_C} {H : Heap} (hP : va_P D cl (((X ++ pl) ++ [x]) ++ rows) H) : va_P D cl ((X ++ [x]) ++ (pl ++ rows)) H := by
  rw [List.append_assoc (X ++ pl)] at hP
  have h := va_P.swap hP
  rw [← List.append_assoc X] at h
  have h2 := va_P.swap h
  rw [List.append_assoc (X ++ [x])] at h2
  exact h2
theorem vr_layD {X rows : va_W} {x : Nat × va_E} {pl : va_W} {A : Nat → Prop} (hD : va_D A (((X ++ pl) ++ [x]) ++ rows)) : va_D A ((X ++ [x]) ++ (pl ++ rows)) := by
  rw [List.append_assoc (X ++ pl)] at hD
  have h := va_D.swap hD
  rw [← List.append_assoc X] at h
  have h2 := va_D.swap h
  rw [List.append_assoc (X ++ [x])] at h2
  exact h2
theorem vr_outer (c : ClassId) (N h0 : Nat) : ∀ i : Nat, Jvm.Free.Multi.outerC c N h0 i = arrV c N (fun j => va_rf (if j < i then some (h0 + 1 + j) else none))
  | 0 => by
    show ({ cls := c, slots := Array.replicate N .null, vm := .none } : Cell) = _
    rw [arrV_new]
    refine congrArg (arrV c N) (funext fun j => ?_)
    simp [va_rf]
  | i + 1 => by
    show (Jvm.Free.Multi.outerC c N h0 i).setSlot i (.ref (h0 + 1 + i)) = _
    rw [vr_outer c N h0 i, arrV_store]
    refine congrArg (arrV c N) (funext fun j => ?_)
    by_cases e : j = i
    · subst e
      simp [updV, va_rf]
    · by_cases h : j < i
      · simp [updV, e, h, Nat.lt_succ_of_lt h]
      · simp [updV, e, h, show ¬ j < i + 1 by omega]
section VGM
variable {p : Program} {l : Launch} {e : Env} {R : Room} {s : State} {m : MethodId} {args : Array Value} {below : List Frame} {meth : Method} {c : Code} {H : Heap} {locs : List Loc} {cells slots : Nat} {Q : State → Prop}
variable {cc : ByteArray} {pc : Nat} {ls : Array Slot} {rest : List Value} {D : va_G} {cl : List vw_C} {A : Nat → Prop} {a : Nat} {tys : List (ClassId × FieldType)} {ws : va_W} {H0 : Heap}
theorem va_mna {X : va_W} {L : List Nat} {f : Nat → va_E} {cc : ByteArray} (hexec : p.tables.exec = Jvm.exec) (hb : c.code = cc) {own : String} {index : Nat} {ty : FieldType} {cy : ClassId} (hown : s.vm.findClass own = some m.cls) (hclink : (Cond.classLink own index ("[" ++ (FieldType.array ty).toString)).before args s = true) (hover : (Cond.arrayOver (.array ty)).before args s = true) (harr : (Cond.arrayClass ty).before args s = true) (hcy : s.vm.findClass (FieldType.array ty).toString = some cy)
    (hK : va_K D cl tys s) (hP : va_P D cl (X ++ va_pl L f) H) (hD : va_D A (X ++ va_pl L f)) (hS : va_S A H0 H locs) (hA : ∀ q, H0.size ≤ q → A q) {n k : Int32} {N' K' : Nat} {z : vp_A} (hn : ¬ n < 0) (hk : ¬ k < 0) (hN : n.toNatClampNeg = N') (hM : k.toNatClampNeg = K')
    (hb1 : N' * 4 ≤ 536870912) (hb2 : K' * componentBytes ty ≤ 536870912) (hb3 : K' ≤ 536870912) (hdf : fits ty (defaultValue ty) = true) (hdd : (defaultValue ty).isDefault = true) (hcells : cells + (1 + N') ≤ R.cells) (hslots : slots + (N' + N' * K') ≤ R.slots) (hz : ∀ c : ClassId, Jvm.Free.Multi.innerC c K' (defaultValue ty) = vp_cell c z) (hdg : decode cc pc = .ok (.multianewarray index 2, 4))
    (kk : ∀ (q : Nat) (r : Nat → Nat) (cA : ClassId) (H1 : Heap), (∀ i j : Nat, i < N' → j < N' → r i = r j → i = j) → (∀ i : Nat, i < N' → r i ∉ L) → va_K D cl (tys ++ [(cA, .array ty)]) s →
      va_P D cl ((X ++ [(q, .inl (cA, N', .inr (.inr (.inr (.inr (fun i => if i < N' then some (r i) else none))))))]) ++ va_pl (L ++ (List.range N').map r) (vr_up f ((List.range N').map r) (.inl (cy, z)))) H1 → va_D A ((X ++ [(q, .inl (cA, N', .inr (.inr (.inr (.inr (fun i => if i < N' then some (r i) else none))))))]) ++ va_pl (L ++ (List.range N').map r) (vr_up f ((List.range N').map r) (.inl (cy, z)))) → va_S A H0 H1 locs →
      W p l e R s m args below meth c H1 locs (cells + 1 + N') (slots + N' + N' * K') Q (F0 m (pc + 4) ls (.ref q :: rest))) : W p l e R s m args below meth c H locs cells slots Q (F0 m pc ls (.int k :: .int n :: rest)) := by
  subst hN
  subst hM
  intro T hT Xs
  obtain ⟨vm₁, cA, comp, -, fA, fC, hO, -, X', step⟩ := Xs.multianewarray2F hexec hown hclink hover harr (g := F0 m pc ls (.int k :: .int n :: rest)) rfl (by rw [hb]; exact hdg) rfl hn hk hb1 hb2 hb3 hdf hdd hcells hslots
  have ec : some cy = some comp := hcy.symm.trans fC
  cases ec
  generalize hF : Jvm.Free.Multi.fill (T.setVm vm₁) cA cy n.toNatClampNeg k.toNatClampNeg (defaultValue ty) n.toNatClampNeg = F at X' step
  have hTh : (T.setVm vm₁).heap = H := hT
  obtain ⟨f1, f2, -, -⟩ := Jvm.Free.Multi.fill_facts (T.setVm vm₁) cA cy n.toNatClampNeg k.toNatClampNeg (defaultValue ty) n.toNatClampNeg
  rw [hF, hTh] at f1 f2
  have hold : ∀ x : Nat, x < H.size → F.heap[x]? = H[x]? := fun x hx => by
    have := Jvm.Free.Multi.fill_old (T.setVm vm₁) cA cy n.toNatClampNeg k.toNatClampNeg (defaultValue ty) (a := x) (by rw [hTh]; exact hx) n.toNatClampNeg
    rw [hF, hTh] at this
    exact this
  have hrow : ∀ j : Nat, j < n.toNatClampNeg → F.heap[H.size + 1 + j]? = some (vp_cell cy z) := fun j hj => by
    have := Jvm.Free.Multi.fill_inner (T.setVm vm₁) cA cy n.toNatClampNeg k.toNatClampNeg (defaultValue ty) n.toNatClampNeg j hj
    rw [hF, hTh, hz] at this
    exact this
  have hout : Jvm.Free.Multi.outerC cA n.toNatClampNeg H.size n.toNatClampNeg = vp_cell cA (n.toNatClampNeg, .inr (.inr (.inr (.inr (fun i => if i < n.toNatClampNeg then some (H.size + 1 + i) else none))))) := by
    rw [vp_cell_q]
    exact vr_outer cA n.toNatClampNeg H.size n.toNatClampNeg
  rw [hout] at f2
  have hlt : ∀ a, a ∈ L → a < H.size := fun a ha => by
    obtain ⟨k9, hk9⟩ := va_pl_get (X := X) (f := f) ha
    exact (hP k9 _ hk9).lt
  have hnl : ∀ i : Nat, i < n.toNatClampNeg → H.size + 1 + i ∉ L := fun i _ h => by
    have := hlt _ h
    omega
  have hnm : ∀ a, a ∈ (List.range n.toNatClampNeg).map (fun i => H.size + 1 + i) → a ∉ L := fun a ha h => by
    obtain ⟨i, -, rfl⟩ := List.mem_map.mp ha
    have := hlt _ h
    omega
  have hP0 : va_P D cl (X ++ va_pl L f) F.heap := hP.kept (fun k9 x hx => hold x.1 ((hP k9 x hx).lt))
  have hP1 : va_P D cl ((X ++ va_pl L f) ++ [(H.size, .inl (cA, n.toNatClampNeg, .inr (.inr (.inr (.inr (fun i => if i < n.toNatClampNeg then some (H.size + 1 + i) else none))))))]) F.heap := hP0.app (fun k9 x hx => by
    have h0 : k9 < 1 := (List.getElem?_eq_some_iff.mp hx).1
    rw [show k9 = 0 by omega] at hx
    cases hx
    exact f2)
  have hP2 : va_P D cl (((X ++ va_pl L f) ++ [(H.size, .inl (cA, n.toNatClampNeg, .inr (.inr (.inr (.inr (fun i => if i < n.toNatClampNeg then some (H.size + 1 + i) else none))))))]) ++ ((List.range n.toNatClampNeg).map (fun i => H.size + 1 + i)).map (fun a => (a, .inl (cy, z)))) F.heap := hP1.app (fun k9 x hx => by
    obtain ⟨a, ha, rfl⟩ := List.mem_map.mp (List.mem_of_getElem? hx)
    obtain ⟨i, hi, rfl⟩ := List.mem_map.mp ha
    exact hrow i (List.mem_range.mp hi))
  have hD2 : va_D A (((X ++ va_pl L f) ++ [(H.size, .inl (cA, n.toNatClampNeg, .inr (.inr (.inr (.inr (fun i => if i < n.toNatClampNeg then some (H.size + 1 + i) else none))))))]) ++ ((List.range n.toNatClampNeg).map (fun i => H.size + 1 + i)).map (fun a => (a, .inl (cy, z)))) := by
    have hD1 := hD.push (e := .inl (cA, n.toNatClampNeg, .inr (.inr (.inr (.inr (fun i => if i < n.toNatClampNeg then some (H.size + 1 + i) else none)))))) hP rfl (hA _ hS.1)
    generalize hW1 : (X ++ va_pl L f) ++ [(H.size, .inl (cA, n.toNatClampNeg, .inr (.inr (.inr (.inr (fun i => if i < n.toNatClampNeg then some (H.size + 1 + i) else none))))))] = W1 at hD1 hP1 ⊢
    have hle : ∀ (k9 : Nat) (x : Nat × va_E), W1[k9]? = some x → x.1 ≤ H.size := fun k9 x hx => by
      rw [← hW1] at hx
      by_cases hl : k9 < (X ++ va_pl L f).length
      · rw [List.getElem?_append_left hl] at hx
        exact Nat.le_of_lt ((hP k9 x hx).lt)
      · rw [List.getElem?_append_right (by omega)] at hx
        have h0 : k9 - (X ++ va_pl L f).length < 1 := (List.getElem?_eq_some_iff.mp hx).1
        rw [show k9 - (X ++ va_pl L f).length = 0 by omega] at hx
        cases hx
        exact Nat.le_refl _
    have hr : ∀ (k9 : Nat) (x : Nat × va_E), (((List.range n.toNatClampNeg).map (fun i => H.size + 1 + i)).map (fun a => ((a, .inl (cy, z)) : Nat × va_E)))[k9]? = some x → x.1 = H.size + 1 + k9 := fun k9 x hx => by
      rw [List.getElem?_map, List.getElem?_map] at hx
      by_cases h9 : k9 < n.toNatClampNeg
      · rw [List.getElem?_range h9] at hx
        cases hx
        rfl
      · have hn0 : (List.range n.toNatClampNeg)[k9]? = none := List.getElem?_eq_none (by rw [List.length_range]; omega)
        rw [hn0] at hx
        cases hx
    refine ⟨fun i j x y hi hj hxy => ?_, fun k9 x hx => ?_⟩
    · by_cases h1 : i < W1.length <;> by_cases h2 : j < W1.length
      · rw [List.getElem?_append_left h1] at hi
        rw [List.getElem?_append_left h2] at hj
        exact hD1.1 i j x y hi hj hxy
      · rw [List.getElem?_append_left h1] at hi
        rw [List.getElem?_append_right (by omega)] at hj
        have := hle _ _ hi
        have := hr _ _ hj
        omega
      · rw [List.getElem?_append_right (by omega)] at hi
        rw [List.getElem?_append_left h2] at hj
        have := hle _ _ hj
        have := hr _ _ hi
        omega
      · rw [List.getElem?_append_right (by omega)] at hi hj
        have := hr _ _ hi
        have := hr _ _ hj
        omega
    · by_cases h1 : k9 < W1.length
      · rw [List.getElem?_append_left h1] at hx
        exact hD1.2 k9 x hx
      · rw [List.getElem?_append_right (by omega)] at hx
        have := hr _ _ hx
        exact hA _ (by have := hS.1; omega)
  have hAr : ArrOfT s cA (.array ty) := fun N9 z9 => by
    obtain ⟨-, k9, hk9, cm9, hkk9⟩ := (hO 0 0 0).1
    exact ⟨(fun q hq => by cases hq), k9, hk9, cm9, hkk9⟩
  have hK2 : va_K D cl (tys ++ [(cA, .array ty)]) s := ⟨hK.1, fun k9 x hx => by
    by_cases hl : k9 < tys.length
    · rw [List.getElem?_append_left hl] at hx
      exact hK.2 k9 x hx
    · rw [List.getElem?_append_right (by omega)] at hx
      have h0 : k9 - tys.length < 1 := (List.getElem?_eq_some_iff.mp hx).1
      rw [show k9 - tys.length = 0 by omega] at hx
      cases hx
      exact ⟨hAr, fA⟩⟩
  obtain ⟨t, a1, b1⟩ := kk H.size (fun i => H.size + 1 + i) cA F.heap (fun i j _ _ h => by have h9 : H.size + 1 + i = H.size + 1 + j := h; omega) hnl hK2 (by rw [← vr_rows hnm]; exact vr_lay hP2) (by rw [← vr_rows hnm]; exact vr_layD hD2) ⟨by rw [f1]; have := hS.1; omega, fun x h1 h2 => (hold x (Nat.lt_of_lt_of_le h1 hS.1)).trans (hS.2.1 x h1 h2), hS.2.2⟩ F rfl X'
  refine ⟨t, step t ?_, b1⟩
  have e : T.heap.size = H.size := by rw [hT]
  rw [e]
  exact a1
end VGM
/-! ===== END ===== -/
def RX0 : String := "LanternHouse$Facts"
def TX0 : u_T := fun k => match k with
  | 0 => ("LanternHouse$Facts", "sorts", "[I", true)
  | 1 => ("LanternHouse$Facts", "subjects", "[I", true)
  | 2 => ("LanternHouse$Facts", "times", "[I", true)
  | 3 => ("LanternHouse$Facts", "latest", "[I", true)
  | _ => ("LanternHouse$Facts", "size", "I", false)
def tyX0 : Nat → FieldType := fun k => match k with
  | 0 => .array .int
  | 1 => .array .int
  | 2 => .array .int
  | 3 => .array .int
  | _ => .int
abbrev wsX00 : List Cond := u_ws RX0 TX0 5
theorem nmX0 : ∀ a, a < 5 → ∀ b, b < 5 → a ≠ b → (TX0 a).2.1 ≠ (TX0 b).2.1 := by decide +kernel
theorem tyX0_ok : ∀ k, k < 5 → parseFieldDescriptor (TX0 k).2.2.1 = some (tyX0 k) := by decide +kernel
abbrev cX0_init : ByteArray := prog_2_method_1_code
def yX0_init : MethodName := ⟨RX0, "<init>", "()V"⟩
abbrev cX0_add : ByteArray := prog_2_method_2_code
def yX0_add : MethodName := ⟨RX0, "add", "(III)I"⟩
abbrev cX0_isKnown : ByteArray := prog_2_method_3_code
def yX0_isKnown : MethodName := ⟨RX0, "isKnown", "(I)Z"⟩
abbrev cX0_brokenPlates : ByteArray := prog_2_method_4_code
def yX0_brokenPlates : MethodName := ⟨RX0, "brokenPlates", "(II)I"⟩
abbrev cX0_firstBroken : ByteArray := prog_2_method_5_code
def yX0_firstBroken : MethodName := ⟨RX0, "firstBroken", "(II)I"⟩
abbrev cX0_lastWhole : ByteArray := prog_2_method_6_code
def yX0_lastWhole : MethodName := ⟨RX0, "lastWhole", "(II)I"⟩
def RX1 : String := "LanternHouse$Keeper"
def TX1 : u_T := fun k => match k with
  | 0 => ("LanternHouse$Keeper", "shows", "LLanternHouse$Shows;", true)
  | 1 => ("LanternHouse$Keeper", "stock", "LLanternHouse$Stock;", true)
  | 2 => ("LanternHouse$Keeper", "facts", "LLanternHouse$Facts;", true)
  | 3 => ("LanternHouse$Keeper", "rails", "LLanternHouse$Rails;", true)
  | 4 => ("LanternHouse$Keeper", "arrivals", "[[I", true)
  | 5 => ("LanternHouse$Keeper", "broken", "[I", true)
  | 6 => ("LanternHouse$Keeper", "freeAt", "[I", true)
  | _ => ("LanternHouse$Keeper", "cleaningHours", "I", false)
def tyX1 : Nat → FieldType := fun k => match k with
  | 0 => .object "LanternHouse$Shows"
  | 1 => .object "LanternHouse$Stock"
  | 2 => .object "LanternHouse$Facts"
  | 3 => .object "LanternHouse$Rails"
  | 4 => .array (.array .int)
  | 5 => .array .int
  | 6 => .array .int
  | _ => .int
abbrev wsX10 : List Cond := u_ws RX1 TX1 8
theorem nmX1 : ∀ a, a < 8 → ∀ b, b < 8 → a ≠ b → (TX1 a).2.1 ≠ (TX1 b).2.1 := by decide +kernel
theorem tyX1_ok : ∀ k, k < 8 → parseFieldDescriptor (TX1 k).2.2.1 = some (tyX1 k) := by decide +kernel
abbrev cX1_init : ByteArray := prog_3_method_1_code
def yX1_init : MethodName := ⟨RX1, "<init>", "(LLanternHouse$Shows;LLanternHouse$Stock;LLanternHouse$Facts;LLanternHouse$Rails;)V"⟩
abbrev cX1_prepare : ByteArray := prog_3_method_2_code
def yX1_prepare : MethodName := ⟨RX1, "prepare", "(I)V"⟩
abbrev cX1_keep : ByteArray := prog_3_method_3_code
def yX1_keep : MethodName := ⟨RX1, "keep", "(ILLanternHouse$Plan;)Z"⟩
abbrev cX1_keepShow : ByteArray := prog_3_method_4_code
def yX1_keepShow : MethodName := ⟨RX1, "keepShow", "(ILLanternHouse$Plan;)Z"⟩
abbrev cX1_platesThatCome : ByteArray := prog_3_method_5_code
def yX1_platesThatCome : MethodName := ⟨RX1, "platesThatCome", "(I)I"⟩
abbrev cX1_firstChoice : ByteArray := prog_3_method_6_code
def yX1_firstChoice : MethodName := ⟨RX1, "firstChoice", "(II)I"⟩
abbrev cX1_lowestOf : ByteArray := prog_3_method_7_code
def yX1_lowestOf : MethodName := ⟨RX1, "lowestOf", "(I)I"⟩
abbrev cX1_wayEnd : ByteArray := prog_3_method_8_code
def yX1_wayEnd : MethodName := ⟨RX1, "wayEnd", "(II)I"⟩
def RX2 : String := "LanternHouse$Lectures"
def TX2 : u_T := fun k => match k with
  | 0 => ("LanternHouse$Lectures", "names", "[J", true)
  | 1 => ("LanternHouse$Lectures", "cueCounts", "[I", true)
  | 2 => ("LanternHouse$Lectures", "hireCounts", "[I", true)
  | 3 => ("LanternHouse$Lectures", "musts", "[Z", true)
  | 4 => ("LanternHouse$Lectures", "kindCounts", "[I", true)
  | 5 => ("LanternHouse$Lectures", "kinds", "[I", true)
  | 6 => ("LanternHouse$Lectures", "minutes", "[I", true)
  | 7 => ("LanternHouse$Lectures", "fades", "[I", true)
  | 8 => ("LanternHouse$Lectures", "hireStarts", "[I", true)
  | 9 => ("LanternHouse$Lectures", "hireEnds", "[I", true)
  | 10 => ("LanternHouse$Lectures", "code", "[I", true)
  | 11 => ("LanternHouse$Lectures", "codeSize", "I", false)
  | _ => ("LanternHouse$Lectures", "size", "I", false)
def tyX2 : Nat → FieldType := fun k => match k with
  | 0 => .array .long
  | 1 => .array .int
  | 2 => .array .int
  | 3 => .array .boolean
  | 4 => .array .int
  | 5 => .array .int
  | 6 => .array .int
  | 7 => .array .int
  | 8 => .array .int
  | 9 => .array .int
  | 10 => .array .int
  | 11 => .int
  | _ => .int
abbrev wsX20 : List Cond := u_ws RX2 TX2 13
theorem nmX2 : ∀ a, a < 13 → ∀ b, b < 13 → a ≠ b → (TX2 a).2.1 ≠ (TX2 b).2.1 := by decide +kernel
theorem tyX2_ok : ∀ k, k < 13 → parseFieldDescriptor (TX2 k).2.2.1 = some (tyX2 k) := by decide +kernel
abbrev cX2_init : ByteArray := prog_4_method_1_code
def yX2_init : MethodName := ⟨RX2, "<init>", "()V"⟩
abbrev cX2_clear : ByteArray := prog_4_method_2_code
def yX2_clear : MethodName := ⟨RX2, "clear", "()V"⟩
abbrev cX2_begin : ByteArray := prog_4_method_3_code
def yX2_begin : MethodName := ⟨RX2, "begin", "(J)V"⟩
abbrev cX2_hasName : ByteArray := prog_4_method_4_code
def yX2_hasName : MethodName := ⟨RX2, "hasName", "(J)Z"⟩
abbrev cX2_hasKind : ByteArray := prog_4_method_5_code
def yX2_hasKind : MethodName := ⟨RX2, "hasKind", "(II)Z"⟩
abbrev cX2_addKind : ByteArray := prog_4_method_6_code
def yX2_addKind : MethodName := ⟨RX2, "addKind", "(II)V"⟩
abbrev cX2_emit : ByteArray := prog_4_method_7_code
def yX2_emit : MethodName := ⟨RX2, "emit", "(I)V"⟩
def RX3 : String := "LanternHouse$Plan"
def TX3 : u_T := fun k => match k with
  | 0 => ("LanternHouse$Plan", "plates", "[I", true)
  | 1 => ("LanternHouse$Plan", "wayEnds", "[I", true)
  | 2 => ("LanternHouse$Plan", "standIns", "[Z", true)
  | 3 => ("LanternHouse$Plan", "set", "I", false)
  | 4 => ("LanternHouse$Plan", "worth", "I", false)
  | 5 => ("LanternHouse$Plan", "changes", "I", false)
  | 6 => ("LanternHouse$Plan", "missed", "I", false)
  | _ => ("LanternHouse$Plan", "instead", "I", false)
def tyX3 : Nat → FieldType := fun k => match k with
  | 0 => .array .int
  | 1 => .array .int
  | 2 => .array .boolean
  | 3 => .int
  | 4 => .int
  | 5 => .int
  | 6 => .int
  | _ => .int
abbrev wsX30 : List Cond := u_ws RX3 TX3 8
theorem nmX3 : ∀ a, a < 8 → ∀ b, b < 8 → a ≠ b → (TX3 a).2.1 ≠ (TX3 b).2.1 := by decide +kernel
theorem tyX3_ok : ∀ k, k < 8 → parseFieldDescriptor (TX3 k).2.2.1 = some (tyX3 k) := by decide +kernel
abbrev cX3_init : ByteArray := prog_5_method_1_code
def yX3_init : MethodName := ⟨RX3, "<init>", "()V"⟩
abbrev cX3_slot : ByteArray := prog_5_method_2_code
def yX3_slot : MethodName := ⟨RX3, "slot", "(II)I"⟩
abbrev cX3_begin : ByteArray := prog_5_method_3_code
def yX3_begin : MethodName := ⟨RX3, "begin", "(II)V"⟩
abbrev cX3_has : ByteArray := prog_5_method_4_code
def yX3_has : MethodName := ⟨RX3, "has", "(I)Z"⟩
abbrev cX3_miss : ByteArray := prog_5_method_5_code
def yX3_miss : MethodName := ⟨RX3, "miss", "(I)V"⟩
abbrev cX3_give : ByteArray := prog_5_method_6_code
def yX3_give : MethodName := ⟨RX3, "give", "(IIZI)V"⟩
abbrev cX3_isBetterThan : ByteArray := prog_5_method_7_code
def yX3_isBetterThan : MethodName := ⟨RX3, "isBetterThan", "(LLanternHouse$Plan;)Z"⟩
abbrev cX3_slotWith : ByteArray := prog_5_method_8_code
def yX3_slotWith : MethodName := ⟨RX3, "slotWith", "(IILLanternHouse$Shows;)I"⟩
abbrev cX3_whatCame : ByteArray := prog_5_method_9_code
def yX3_whatCame : MethodName := ⟨RX3, "whatCame", "(IIILLanternHouse$Shows;)I"⟩
abbrev cX3_sentTo : ByteArray := prog_5_method_10_code
def yX3_sentTo : MethodName := ⟨RX3, "sentTo", "(IILLanternHouse$Shows;)I"⟩
def RX4 : String := "LanternHouse$Rails"
def TX4 : u_T := fun k => match k with
  | 0 => ("LanternHouse$Rails", "froms", "[I", true)
  | 1 => ("LanternHouse$Rails", "tos", "[I", true)
  | 2 => ("LanternHouse$Rails", "hours", "[I", true)
  | 3 => ("LanternHouse$Rails", "lengths", "[I", true)
  | 4 => ("LanternHouse$Rails", "idleDays", "[J", true)
  | 5 => ("LanternHouse$Rails", "reached", "[I", true)
  | 6 => ("LanternHouse$Rails", "halls", "I", false)
  | _ => ("LanternHouse$Rails", "trains", "I", false)
def tyX4 : Nat → FieldType := fun k => match k with
  | 0 => .array .int
  | 1 => .array .int
  | 2 => .array .int
  | 3 => .array .int
  | 4 => .array .long
  | 5 => .array .int
  | 6 => .int
  | _ => .int
abbrev wsX40 : List Cond := u_ws RX4 TX4 8
theorem nmX4 : ∀ a, a < 8 → ∀ b, b < 8 → a ≠ b → (TX4 a).2.1 ≠ (TX4 b).2.1 := by decide +kernel
theorem tyX4_ok : ∀ k, k < 8 → parseFieldDescriptor (TX4 k).2.2.1 = some (tyX4 k) := by decide +kernel
abbrev cX4_init : ByteArray := prog_6_method_1_code
def yX4_init : MethodName := ⟨RX4, "<init>", "()V"⟩
abbrev cX4_addHall : ByteArray := prog_6_method_2_code
def yX4_addHall : MethodName := ⟨RX4, "addHall", "()I"⟩
abbrev cX4_isHall : ByteArray := prog_6_method_3_code
def yX4_isHall : MethodName := ⟨RX4, "isHall", "(I)Z"⟩
abbrev cX4_addTrain : ByteArray := prog_6_method_4_code
def yX4_addTrain : MethodName := ⟨RX4, "addTrain", "(IIII)I"⟩
abbrev cX4_learn : ByteArray := prog_6_method_5_code
def yX4_learn : MethodName := ⟨RX4, "learn", "(LLanternHouse$Facts;I)V"⟩
abbrev cX4_soonest : ByteArray := prog_6_method_6_code
def yX4_soonest : MethodName := ⟨RX4, "soonest", "(III)I"⟩
abbrev cX4_spread : ByteArray := prog_6_method_7_code
def yX4_spread : MethodName := ⟨RX4, "spread", "(II[I)V"⟩
abbrev cX4_arrival : ByteArray := prog_6_method_8_code
def yX4_arrival : MethodName := ⟨RX4, "arrival", "(III)I"⟩
def RX5 : String := "LanternHouse$Reader"
def TX5 : u_T := fun k => match k with
  | 0 => ("LanternHouse$Reader", "tokens", "LLanternHouse$Tokens;", true)
  | 1 => ("LanternHouse$Reader", "waiting", "[I", true)
  | 2 => ("LanternHouse$Reader", "waitingCount", "I", false)
  | 3 => ("LanternHouse$Reader", "text", "LLanternHouse$Lectures;", false)
  | 4 => ("LanternHouse$Reader", "at", "I", false)
  | 5 => ("LanternHouse$Reader", "value", "J", false)
  | 6 => ("LanternHouse$Reader", "valuePlace", "I", false)
  | 7 => ("LanternHouse$Reader", "fault", "I", false)
  | 8 => ("LanternHouse$Reader", "faultPlace", "I", false)
  | 9 => ("LanternHouse$Reader", "noted", "I", false)
  | _ => ("LanternHouse$Reader", "notedPlace", "I", false)
def tyX5 : Nat → FieldType := fun k => match k with
  | 0 => .object "LanternHouse$Tokens"
  | 1 => .array .int
  | 2 => .int
  | 3 => .object "LanternHouse$Lectures"
  | 4 => .int
  | 5 => .long
  | 6 => .int
  | 7 => .int
  | 8 => .int
  | 9 => .int
  | _ => .int
abbrev wsX50 : List Cond := u_ws RX5 TX5 11
theorem nmX5 : ∀ a, a < 11 → ∀ b, b < 11 → a ≠ b → (TX5 a).2.1 ≠ (TX5 b).2.1 := by decide +kernel
theorem tyX5_ok : ∀ k, k < 11 → parseFieldDescriptor (TX5 k).2.2.1 = some (tyX5 k) := by decide +kernel
abbrev cX5_init : ByteArray := prog_7_method_1_code
def yX5_init : MethodName := ⟨RX5, "<init>", "(LLanternHouse$Tokens;)V"⟩
abbrev cX5_parse : ByteArray := prog_7_method_2_code
def yX5_parse : MethodName := ⟨RX5, "parse", "(LLanternHouse$Lectures;)V"⟩
abbrev cX5_begin : ByteArray := prog_7_method_3_code
def yX5_begin : MethodName := ⟨RX5, "begin", "(LLanternHouse$Lectures;)V"⟩
abbrev cX5_fails : ByteArray := prog_7_method_4_code
def yX5_fails : MethodName := ⟨RX5, "fails", "(I)Z"⟩
abbrev cX5_note : ByteArray := prog_7_method_5_code
def yX5_note : MethodName := ⟨RX5, "note", "(I)V"⟩
abbrev cX5_take : ByteArray := prog_7_method_6_code
def yX5_take : MethodName := ⟨RX5, "take", "(I)Z"⟩
abbrev cX5_readLecture : ByteArray := prog_7_method_7_code
def yX5_readLecture : MethodName := ⟨RX5, "readLecture", "(I)Z"⟩
abbrev cX5_readCues : ByteArray := prog_7_method_8_code
def yX5_readCues : MethodName := ⟨RX5, "readCues", "(I)Z"⟩
abbrev cX5_readCue : ByteArray := prog_7_method_9_code
def yX5_readCue : MethodName := ⟨RX5, "readCue", "(II)Z"⟩
abbrev cX5_readKinds : ByteArray := prog_7_method_10_code
def yX5_readKinds : MethodName := ⟨RX5, "readKinds", "(I)Z"⟩
abbrev cX5_readHires : ByteArray := prog_7_method_11_code
def yX5_readHires : MethodName := ⟨RX5, "readHires", "(I)Z"⟩
abbrev cX5_readHire : ByteArray := prog_7_method_12_code
def yX5_readHire : MethodName := ⟨RX5, "readHire", "()Z"⟩
abbrev cX5_readSum : ByteArray := prog_7_method_13_code
def yX5_readSum : MethodName := ⟨RX5, "readSum", "()Z"⟩
abbrev cX5_hold : ByteArray := prog_7_method_14_code
def yX5_hold : MethodName := ⟨RX5, "hold", "(I)V"⟩
abbrev cX5_release : ByteArray := prog_7_method_15_code
def yX5_release : MethodName := ⟨RX5, "release", "(Z)V"⟩
def RX6 : String := "LanternHouse$Showing"
def TX6 : u_T := fun k => match k with
  | 0 => ("LanternHouse$Showing", "begins", "[I", true)
  | 1 => ("LanternHouse$Showing", "isShown", "[Z", true)
  | 2 => ("LanternHouse$Showing", "values", "[I", true)
  | 3 => ("LanternHouse$Showing", "shown", "I", false)
  | 4 => ("LanternHouse$Showing", "missed", "I", false)
  | 5 => ("LanternHouse$Showing", "instead", "I", false)
  | 6 => ("LanternHouse$Showing", "minutes", "I", false)
  | 7 => ("LanternHouse$Showing", "gas", "I", false)
  | 8 => ("LanternHouse$Showing", "worth", "I", false)
  | 9 => ("LanternHouse$Showing", "firstDark", "I", false)
  | 10 => ("LanternHouse$Showing", "hire", "I", false)
  | _ => ("LanternHouse$Showing", "hireNumber", "I", false)
def tyX6 : Nat → FieldType := fun k => match k with
  | 0 => .array .int
  | 1 => .array .boolean
  | 2 => .array .int
  | 3 => .int
  | 4 => .int
  | 5 => .int
  | 6 => .int
  | 7 => .int
  | 8 => .int
  | 9 => .int
  | 10 => .int
  | _ => .int
abbrev wsX60 : List Cond := u_ws RX6 TX6 12
theorem nmX6 : ∀ a, a < 12 → ∀ b, b < 12 → a ≠ b → (TX6 a).2.1 ≠ (TX6 b).2.1 := by decide +kernel
theorem tyX6_ok : ∀ k, k < 12 → parseFieldDescriptor (TX6 k).2.2.1 = some (tyX6 k) := by decide +kernel
abbrev cX6_init : ByteArray := prog_8_method_1_code
def yX6_init : MethodName := ⟨RX6, "<init>", "()V"⟩
abbrev cX6_goThrough : ByteArray := prog_8_method_2_code
def yX6_goThrough : MethodName := ⟨RX6, "goThrough", "(ILLanternHouse$Shows;LLanternHouse$Plan;)V"⟩
abbrev cX6_begin : ByteArray := prog_8_method_3_code
def yX6_begin : MethodName := ⟨RX6, "begin", "(I)V"⟩
abbrev cX6_findHire : ByteArray := prog_8_method_4_code
def yX6_findHire : MethodName := ⟨RX6, "findHire", "(LLanternHouse$Lectures;I)V"⟩
abbrev cX6_holds : ByteArray := prog_8_method_5_code
def yX6_holds : MethodName := ⟨RX6, "holds", "([III)Z"⟩
abbrev cX6_variable : ByteArray := prog_8_method_6_code
def yX6_variable : MethodName := ⟨RX6, "variable", "(I)I"⟩
abbrev cX6_reckon : ByteArray := prog_8_method_7_code
def yX6_reckon : MethodName := ⟨RX6, "reckon", "(III)I"⟩
abbrev cX6_relates : ByteArray := prog_8_method_8_code
def yX6_relates : MethodName := ⟨RX6, "relates", "(III)Z"⟩
def RX7 : String := "LanternHouse$Shows"
def TX7 : u_T := fun k => match k with
  | 0 => ("LanternHouse$Shows", "nights", "[I", true)
  | 1 => ("LanternHouse$Shows", "halls", "[I", true)
  | 2 => ("LanternHouse$Shows", "lectures", "[I", true)
  | 3 => ("LanternHouse$Shows", "gas", "[I", true)
  | 4 => ("LanternHouse$Shows", "worths", "[I", true)
  | 5 => ("LanternHouse$Shows", "order", "[I", true)
  | 6 => ("LanternHouse$Shows", "size", "I", false)
  | _ => ("LanternHouse$Shows", "text", "LLanternHouse$Lectures;", false)
def tyX7 : Nat → FieldType := fun k => match k with
  | 0 => .array .int
  | 1 => .array .int
  | 2 => .array .int
  | 3 => .array .int
  | 4 => .array .int
  | 5 => .array .int
  | 6 => .int
  | _ => .object "LanternHouse$Lectures"
abbrev wsX70 : List Cond := u_ws RX7 TX7 8
theorem nmX7 : ∀ a, a < 8 → ∀ b, b < 8 → a ≠ b → (TX7 a).2.1 ≠ (TX7 b).2.1 := by decide +kernel
theorem tyX7_ok : ∀ k, k < 8 → parseFieldDescriptor (TX7 k).2.2.1 = some (tyX7 k) := by decide +kernel
abbrev cX7_init : ByteArray := prog_9_method_1_code
def yX7_init : MethodName := ⟨RX7, "<init>", "(LLanternHouse$Lectures;)V"⟩
abbrev cX7_startOver : ByteArray := prog_9_method_2_code
def yX7_startOver : MethodName := ⟨RX7, "startOver", "(LLanternHouse$Lectures;)V"⟩
abbrev cX7_add : ByteArray := prog_9_method_3_code
def yX7_add : MethodName := ⟨RX7, "add", "(IIIII)I"⟩
abbrev cX7_isTaken : ByteArray := prog_9_method_4_code
def yX7_isTaken : MethodName := ⟨RX7, "isTaken", "(II)Z"⟩
abbrev cX7_putInOrder : ByteArray := prog_9_method_5_code
def yX7_putInOrder : MethodName := ⟨RX7, "putInOrder", "(I)V"⟩
abbrev cX7_isShow : ByteArray := prog_9_method_6_code
def yX7_isShow : MethodName := ⟨RX7, "isShow", "(I)Z"⟩
abbrev cX7_all : ByteArray := prog_9_method_7_code
def yX7_all : MethodName := ⟨RX7, "all", "()I"⟩
abbrev cX7_worthOf : ByteArray := prog_9_method_8_code
def yX7_worthOf : MethodName := ⟨RX7, "worthOf", "(I)I"⟩
abbrev cX7_cuesOf : ByteArray := prog_9_method_9_code
def yX7_cuesOf : MethodName := ⟨RX7, "cuesOf", "(I)I"⟩
abbrev cX7_dueHour : ByteArray := prog_9_method_10_code
def yX7_dueHour : MethodName := ⟨RX7, "dueHour", "(I)I"⟩
abbrev cX7_shownHour : ByteArray := prog_9_method_11_code
def yX7_shownHour : MethodName := ⟨RX7, "shownHour", "(I)I"⟩
abbrev cX7_freeHour : ByteArray := prog_9_method_12_code
def yX7_freeHour : MethodName := ⟨RX7, "freeHour", "(I)I"⟩
def RX8 : String := "LanternHouse$Stock"
def TX8 : u_T := fun k => match k with
  | 0 => ("LanternHouse$Stock", "kinds", "[I", true)
  | 1 => ("LanternHouse$Stock", "platesOfKind", "[I", true)
  | _ => ("LanternHouse$Stock", "size", "I", false)
def tyX8 : Nat → FieldType := fun k => match k with
  | 0 => .array .int
  | 1 => .array .int
  | _ => .int
abbrev wsX80 : List Cond := u_ws RX8 TX8 3
theorem nmX8 : ∀ a, a < 3 → ∀ b, b < 3 → a ≠ b → (TX8 a).2.1 ≠ (TX8 b).2.1 := by decide +kernel
theorem tyX8_ok : ∀ k, k < 3 → parseFieldDescriptor (TX8 k).2.2.1 = some (tyX8 k) := by decide +kernel
abbrev cX8_init : ByteArray := prog_10_method_1_code
def yX8_init : MethodName := ⟨RX8, "<init>", "()V"⟩
abbrev cX8_add : ByteArray := prog_10_method_2_code
def yX8_add : MethodName := ⟨RX8, "add", "(I)I"⟩
abbrev cX8_kindOf : ByteArray := prog_10_method_3_code
def yX8_kindOf : MethodName := ⟨RX8, "kindOf", "(I)I"⟩
def RX9 : String := "LanternHouse$Tape"
def TX9 : u_T := fun k => match k with
  | 0 => ("LanternHouse$Tape", "bytes", "[B", true)
  | _ => ("LanternHouse$Tape", "length", "I", false)
def tyX9 : Nat → FieldType := fun k => match k with
  | 0 => .array .byte
  | _ => .int
abbrev wsX90 : List Cond := u_ws RX9 TX9 2
theorem nmX9 : ∀ a, a < 2 → ∀ b, b < 2 → a ≠ b → (TX9 a).2.1 ≠ (TX9 b).2.1 := by decide +kernel
theorem tyX9_ok : ∀ k, k < 2 → parseFieldDescriptor (TX9 k).2.2.1 = some (tyX9 k) := by decide +kernel
abbrev cX9_init : ByteArray := prog_11_method_1_code
def yX9_init : MethodName := ⟨RX9, "<init>", "()V"⟩
abbrev cX9_put : ByteArray := prog_11_method_2_code
def yX9_put : MethodName := ⟨RX9, "put", "(I)V"⟩
abbrev cX9_at : ByteArray := prog_11_method_3_code
def yX9_at : MethodName := ⟨RX9, "at", "(I)I"⟩
abbrev cX9_spells : ByteArray := prog_11_method_4_code
def yX9_spells : MethodName := ⟨RX9, "spells", "(IILjava/lang/String;)Z"⟩
def RX10 : String := "LanternHouse$Tokens"
def TX10 : u_T := fun k => match k with
  | 0 => ("LanternHouse$Tokens", "sorts", "[I", true)
  | 1 => ("LanternHouse$Tokens", "places", "[I", true)
  | _ => ("LanternHouse$Tokens", "values", "[J", true)
def tyX10 : Nat → FieldType := fun k => match k with
  | 0 => .array .int
  | 1 => .array .int
  | _ => .array .long
abbrev wsX100 : List Cond := u_ws RX10 TX10 3
theorem nmX10 : ∀ a, a < 3 → ∀ b, b < 3 → a ≠ b → (TX10 a).2.1 ≠ (TX10 b).2.1 := by decide +kernel
theorem tyX10_ok : ∀ k, k < 3 → parseFieldDescriptor (TX10 k).2.2.1 = some (tyX10 k) := by decide +kernel
abbrev cX10_init : ByteArray := prog_12_method_1_code
def yX10_init : MethodName := ⟨RX10, "<init>", "()V"⟩
abbrev cX10_scan : ByteArray := prog_12_method_2_code
def yX10_scan : MethodName := ⟨RX10, "scan", "(LLanternHouse$Tape;)V"⟩
abbrev cX10_isVar : ByteArray := prog_12_method_3_code
def yX10_isVar : MethodName := ⟨RX10, "isVar", "(I)Z"⟩
abbrev cX10_isOperator : ByteArray := prog_12_method_4_code
def yX10_isOperator : MethodName := ⟨RX10, "isOperator", "(I)Z"⟩
abbrev cX10_isRelation : ByteArray := prog_12_method_5_code
def yX10_isRelation : MethodName := ⟨RX10, "isRelation", "(I)Z"⟩
abbrev cX10_isBlank : ByteArray := prog_12_method_6_code
def yX10_isBlank : MethodName := ⟨RX10, "isBlank", "(I)Z"⟩
abbrev cX10_isLetter : ByteArray := prog_12_method_7_code
def yX10_isLetter : MethodName := ⟨RX10, "isLetter", "(I)Z"⟩
abbrev cX10_isDigit : ByteArray := prog_12_method_8_code
def yX10_isDigit : MethodName := ⟨RX10, "isDigit", "(I)Z"⟩
abbrev cX10_pastBlanks : ByteArray := prog_12_method_9_code
def yX10_pastBlanks : MethodName := ⟨RX10, "pastBlanks", "(LLanternHouse$Tape;I)I"⟩
abbrev cX10_endOf : ByteArray := prog_12_method_10_code
def yX10_endOf : MethodName := ⟨RX10, "endOf", "(LLanternHouse$Tape;I)I"⟩
abbrev cX10_sortOf : ByteArray := prog_12_method_11_code
def yX10_sortOf : MethodName := ⟨RX10, "sortOf", "(LLanternHouse$Tape;II)I"⟩
abbrev cX10_signSort : ByteArray := prog_12_method_12_code
def yX10_signSort : MethodName := ⟨RX10, "signSort", "(IZ)I"⟩
abbrev cX10_wordSort : ByteArray := prog_12_method_13_code
def yX10_wordSort : MethodName := ⟨RX10, "wordSort", "(LLanternHouse$Tape;II)I"⟩
abbrev cX10_valueOf : ByteArray := prog_12_method_14_code
def yX10_valueOf : MethodName := ⟨RX10, "valueOf", "(LLanternHouse$Tape;II)J"⟩
def RX11 : String := "LanternHouse"
def TX11 : u_T := fun k => match k with
  | 0 => ("LanternHouse", "tape", "LLanternHouse$Tape;", true)
  | 1 => ("LanternHouse", "tokens", "LLanternHouse$Tokens;", true)
  | 2 => ("LanternHouse", "reader", "LLanternHouse$Reader;", true)
  | 3 => ("LanternHouse", "rails", "LLanternHouse$Rails;", true)
  | 4 => ("LanternHouse", "stock", "LLanternHouse$Stock;", true)
  | 5 => ("LanternHouse", "facts", "LLanternHouse$Facts;", true)
  | 6 => ("LanternHouse", "shows", "LLanternHouse$Shows;", true)
  | 7 => ("LanternHouse", "keeper", "LLanternHouse$Keeper;", true)
  | 8 => ("LanternHouse", "lastShowing", "LLanternHouse$Showing;", true)
  | 9 => ("LanternHouse", "draft", "LLanternHouse$Lectures;", false)
  | 10 => ("LanternHouse", "made", "LLanternHouse$Plan;", false)
  | 11 => ("LanternHouse", "trial", "LLanternHouse$Plan;", false)
  | _ => ("LanternHouse", "isMade", "Z", false)
def tyX11 : Nat → FieldType := fun k => match k with
  | 0 => .object "LanternHouse$Tape"
  | 1 => .object "LanternHouse$Tokens"
  | 2 => .object "LanternHouse$Reader"
  | 3 => .object "LanternHouse$Rails"
  | 4 => .object "LanternHouse$Stock"
  | 5 => .object "LanternHouse$Facts"
  | 6 => .object "LanternHouse$Shows"
  | 7 => .object "LanternHouse$Keeper"
  | 8 => .object "LanternHouse$Showing"
  | 9 => .object "LanternHouse$Lectures"
  | 10 => .object "LanternHouse$Plan"
  | 11 => .object "LanternHouse$Plan"
  | _ => .boolean
abbrev wsX110 : List Cond := u_ws RX11 TX11 13
theorem nmX11 : ∀ a, a < 13 → ∀ b, b < 13 → a ≠ b → (TX11 a).2.1 ≠ (TX11 b).2.1 := by decide +kernel
theorem tyX11_ok : ∀ k, k < 13 → parseFieldDescriptor (TX11 k).2.2.1 = some (tyX11 k) := by decide +kernel
abbrev cX11_init : ByteArray := prog_1_method_1_code
def yX11_init : MethodName := ⟨RX11, "<init>", "()V"⟩
abbrev cX11_feed : ByteArray := prog_1_method_2_code
def yX11_feed : MethodName := ⟨RX11, "feed", "(IIIII)I"⟩
abbrev cX11_back : ByteArray := prog_1_method_3_code
def yX11_back : MethodName := ⟨RX11, "back", "(I)I"⟩
abbrev cX11_read : ByteArray := prog_1_method_4_code
def yX11_read : MethodName := ⟨RX11, "read", "()I"⟩
abbrev cX11_place : ByteArray := prog_1_method_5_code
def yX11_place : MethodName := ⟨RX11, "place", "()I"⟩
abbrev cX11_hall : ByteArray := prog_1_method_6_code
def yX11_hall : MethodName := ⟨RX11, "hall", "()I"⟩
abbrev cX11_train : ByteArray := prog_1_method_7_code
def yX11_train : MethodName := ⟨RX11, "train", "(IIII)I"⟩
abbrev cX11_plate : ByteArray := prog_1_method_8_code
def yX11_plate : MethodName := ⟨RX11, "plate", "(I)I"⟩
abbrev cX11_cleaning : ByteArray := prog_1_method_9_code
def yX11_cleaning : MethodName := ⟨RX11, "cleaning", "(I)Z"⟩
abbrev cX11_cancel : ByteArray := prog_1_method_10_code
def yX11_cancel : MethodName := ⟨RX11, "cancel", "(II)I"⟩
abbrev cX11_look : ByteArray := prog_1_method_11_code
def yX11_look : MethodName := ⟨RX11, "look", "(IIZ)I"⟩
abbrev cX11_show : ByteArray := prog_1_method_12_code
def yX11_show : MethodName := ⟨RX11, "show", "(IIIII)I"⟩
abbrev cX11_way : ByteArray := prog_1_method_13_code
def yX11_way : MethodName := ⟨RX11, "way", "(IIII)I"⟩
abbrev cX11_broken : ByteArray := prog_1_method_14_code
def yX11_broken : MethodName := ⟨RX11, "broken", "(III)I"⟩
abbrev cX11_can : ByteArray := prog_1_method_15_code
def yX11_can : MethodName := ⟨RX11, "can", "(II)I"⟩
abbrev cX11_make : ByteArray := prog_1_method_16_code
def yX11_make : MethodName := ⟨RX11, "make", "(I)I"⟩
abbrev cX11_mend : ByteArray := prog_1_method_17_code
def yX11_mend : MethodName := ⟨RX11, "mend", "(I)I"⟩
abbrev cX11_told : ByteArray := prog_1_method_18_code
def yX11_told : MethodName := ⟨RX11, "told", "(II)I"⟩
abbrev cX11_cue : ByteArray := prog_1_method_19_code
def yX11_cue : MethodName := ⟨RX11, "cue", "(III)I"⟩
abbrev cX11_showing : ByteArray := prog_1_method_20_code
def yX11_showing : MethodName := ⟨RX11, "showing", "(II)I"⟩
abbrev cX11_blame : ByteArray := prog_1_method_21_code
def yX11_blame : MethodName := ⟨RX11, "blame", "(II)I"⟩
abbrev cX11_where : ByteArray := prog_1_method_22_code
def yX11_where : MethodName := ⟨RX11, "where", "(II)I"⟩
abbrev cX11_count : ByteArray := prog_1_method_23_code
def yX11_count : MethodName := ⟨RX11, "count", "(I)I"⟩
abbrev cX11_isPlate : ByteArray := prog_1_method_24_code
def yX11_isPlate : MethodName := ⟨RX11, "isPlate", "(I)Z"⟩
abbrev cX11_isHour : ByteArray := prog_1_method_25_code
def yX11_isHour : MethodName := ⟨RX11, "isHour", "(I)Z"⟩
abbrev cX11_isKept : ByteArray := prog_1_method_26_code
def yX11_isKept : MethodName := ⟨RX11, "isKept", "(I)Z"⟩
abbrev cX11_settle : ByteArray := prog_1_method_27_code
def yX11_settle : MethodName := ⟨RX11, "settle", "(II)V"⟩
abbrev cX11_changes : ByteArray := prog_1_method_28_code
def yX11_changes : MethodName := ⟨RX11, "changes", "(II)I"⟩
def RX12 : String := "LanternHouseModel"
def TX12 : u_T := fun k => match k with
  | 0 => ("LanternHouseModel", "thrown", "I", false)
  | 1 => ("LanternHouseModel", "tape", "[B", true)
  | 2 => ("LanternHouseModel", "taped", "I", false)
  | 3 => ("LanternHouseModel", "text", "[B", true)
  | 4 => ("LanternHouseModel", "size", "I", false)
  | 5 => ("LanternHouseModel", "tKind", "[I", true)
  | 6 => ("LanternHouseModel", "tPlace", "[I", true)
  | 7 => ("LanternHouseModel", "tValue", "[I", true)
  | 8 => ("LanternHouseModel", "tName", "[J", true)
  | 9 => ("LanternHouseModel", "keys", "[J", true)
  | 10 => ("LanternHouseModel", "tokens", "I", false)
  | 11 => ("LanternHouseModel", "t", "I", false)
  | 12 => ("LanternHouseModel", "open", "I", false)
  | 13 => ("LanternHouseModel", "fault", "I", false)
  | 14 => ("LanternHouseModel", "faultPlace", "I", false)
  | 15 => ("LanternHouseModel", "worst", "I", false)
  | 16 => ("LanternHouseModel", "worstPlace", "I", false)
  | 17 => ("LanternHouseModel", "place", "I", false)
  | 18 => ("LanternHouseModel", "live", "I", false)
  | 19 => ("LanternHouseModel", "side", "I", false)
  | 20 => ("LanternHouseModel", "lectures", "[I", true)
  | 21 => ("LanternHouseModel", "lectName", "[J", true)
  | 22 => ("LanternHouseModel", "cues", "[I", true)
  | 23 => ("LanternHouseModel", "hires", "[I", true)
  | 24 => ("LanternHouseModel", "cueMust", "[Z", true)
  | 25 => ("LanternHouseModel", "cueKinds", "[I", true)
  | 26 => ("LanternHouseModel", "cueKind", "[I", true)
  | 27 => ("LanternHouseModel", "cueFor", "[I", true)
  | 28 => ("LanternHouseModel", "cueFade", "[I", true)
  | 29 => ("LanternHouseModel", "hireFrom", "[I", true)
  | 30 => ("LanternHouseModel", "hireTo", "[I", true)
  | 31 => ("LanternHouseModel", "hireFirst", "[I", true)
  | 32 => ("LanternHouseModel", "hireLast", "[I", true)
  | 33 => ("LanternHouseModel", "relations", "[I", true)
  | 34 => ("LanternHouseModel", "relSort", "[I", true)
  | 35 => ("LanternHouseModel", "relLeft", "[I", true)
  | 36 => ("LanternHouseModel", "relRight", "[I", true)
  | 37 => ("LanternHouseModel", "relEnd", "[I", true)
  | 38 => ("LanternHouseModel", "codes", "I", false)
  | 39 => ("LanternHouseModel", "code", "[I", true)
  | 40 => ("LanternHouseModel", "codeInt", "[I", true)
  | 41 => ("LanternHouseModel", "waits", "[I", true)
  | 42 => ("LanternHouseModel", "waiting", "I", false)
  | 43 => ("LanternHouseModel", "halls", "I", false)
  | 44 => ("LanternHouseModel", "trains", "I", false)
  | 45 => ("LanternHouseModel", "trainFrom", "[I", true)
  | 46 => ("LanternHouseModel", "trainTo", "[I", true)
  | 47 => ("LanternHouseModel", "trainHour", "[I", true)
  | 48 => ("LanternHouseModel", "trainTakes", "[I", true)
  | 49 => ("LanternHouseModel", "plates", "I", false)
  | 50 => ("LanternHouseModel", "kind", "[I", true)
  | 51 => ("LanternHouseModel", "cleaning", "I", false)
  | 52 => ("LanternHouseModel", "facts", "I", false)
  | 53 => ("LanternHouseModel", "factSort", "[I", true)
  | 54 => ("LanternHouseModel", "factOf", "[I", true)
  | 55 => ("LanternHouseModel", "factAt", "[I", true)
  | 56 => ("LanternHouseModel", "stillFor", "I", false)
  | 57 => ("LanternHouseModel", "still", "[Z", true)
  | 58 => ("LanternHouseModel", "soonest", "[I", true)
  | 59 => ("LanternHouseModel", "shows", "I", false)
  | 60 => ("LanternHouseModel", "night", "[I", true)
  | 61 => ("LanternHouseModel", "where", "[I", true)
  | 62 => ("LanternHouseModel", "lecture", "[I", true)
  | 63 => ("LanternHouseModel", "gas", "[I", true)
  | 64 => ("LanternHouseModel", "worth", "[I", true)
  | 65 => ("LanternHouseModel", "gets", "[I", true)
  | 66 => ("LanternHouseModel", "getsAs", "[I", true)
  | 67 => ("LanternHouseModel", "getsFrom", "[I", true)
  | 68 => ("LanternHouseModel", "getsAt", "[I", true)
  | 69 => ("LanternHouseModel", "missed", "I", false)
  | 70 => ("LanternHouseModel", "instead", "I", false)
  | 71 => ("LanternHouseModel", "plateAt", "[I", true)
  | 72 => ("LanternHouseModel", "plateFree", "[I", true)
  | 73 => ("LanternHouseModel", "inShow", "[Z", true)
  | 74 => ("LanternHouseModel", "isMade", "Z", false)
  | 75 => ("LanternHouseModel", "made", "I", false)
  | 76 => ("LanternHouseModel", "madeMissed", "I", false)
  | 77 => ("LanternHouseModel", "madeInstead", "I", false)
  | 78 => ("LanternHouseModel", "madeGets", "[I", true)
  | 79 => ("LanternHouseModel", "madeAs", "[I", true)
  | 80 => ("LanternHouseModel", "madeFrom", "[I", true)
  | 81 => ("LanternHouseModel", "madeAt", "[I", true)
  | 82 => ("LanternHouseModel", "variables", "[I", true)
  | 83 => ("LanternHouseModel", "begins", "[I", true)
  | 84 => ("LanternHouseModel", "isShown", "[Z", true)
  | 85 => ("LanternHouseModel", "firstDark", "I", false)
  | _ => ("LanternHouseModel", "pile", "[I", true)
def tyX12 : Nat → FieldType := fun k => match k with
  | 0 => .int
  | 1 => .array .byte
  | 2 => .int
  | 3 => .array .byte
  | 4 => .int
  | 5 => .array .int
  | 6 => .array .int
  | 7 => .array .int
  | 8 => .array .long
  | 9 => .array .long
  | 10 => .int
  | 11 => .int
  | 12 => .int
  | 13 => .int
  | 14 => .int
  | 15 => .int
  | 16 => .int
  | 17 => .int
  | 18 => .int
  | 19 => .int
  | 20 => .array .int
  | 21 => .array .long
  | 22 => .array .int
  | 23 => .array .int
  | 24 => .array .boolean
  | 25 => .array .int
  | 26 => .array .int
  | 27 => .array .int
  | 28 => .array .int
  | 29 => .array .int
  | 30 => .array .int
  | 31 => .array .int
  | 32 => .array .int
  | 33 => .array .int
  | 34 => .array .int
  | 35 => .array .int
  | 36 => .array .int
  | 37 => .array .int
  | 38 => .int
  | 39 => .array .int
  | 40 => .array .int
  | 41 => .array .int
  | 42 => .int
  | 43 => .int
  | 44 => .int
  | 45 => .array .int
  | 46 => .array .int
  | 47 => .array .int
  | 48 => .array .int
  | 49 => .int
  | 50 => .array .int
  | 51 => .int
  | 52 => .int
  | 53 => .array .int
  | 54 => .array .int
  | 55 => .array .int
  | 56 => .int
  | 57 => .array .boolean
  | 58 => .array .int
  | 59 => .int
  | 60 => .array .int
  | 61 => .array .int
  | 62 => .array .int
  | 63 => .array .int
  | 64 => .array .int
  | 65 => .array .int
  | 66 => .array .int
  | 67 => .array .int
  | 68 => .array .int
  | 69 => .int
  | 70 => .int
  | 71 => .array .int
  | 72 => .array .int
  | 73 => .array .boolean
  | 74 => .boolean
  | 75 => .int
  | 76 => .int
  | 77 => .int
  | 78 => .array .int
  | 79 => .array .int
  | 80 => .array .int
  | 81 => .array .int
  | 82 => .array .int
  | 83 => .array .int
  | 84 => .array .boolean
  | 85 => .int
  | _ => .array .int
abbrev wsX120 : List Cond := u_ws RX12 TX12 87
theorem nmX12 : ∀ a, a < 87 → ∀ b, b < 87 → a ≠ b → (TX12 a).2.1 ≠ (TX12 b).2.1 := by decide +kernel
theorem tyX12_ok : ∀ k, k < 87 → parseFieldDescriptor (TX12 k).2.2.1 = some (tyX12 k) := by decide +kernel
abbrev cX12_init : ByteArray := prog_14_method_2_code
def yX12_init : MethodName := ⟨RX12, "<init>", "()V"⟩
abbrev cX12_feed : ByteArray := prog_14_method_3_code
def yX12_feed : MethodName := ⟨RX12, "feed", "(IIIII)I"⟩
abbrev cX12_put : ByteArray := prog_14_method_4_code
def yX12_put : MethodName := ⟨RX12, "put", "(I)V"⟩
abbrev cX12_back : ByteArray := prog_14_method_5_code
def yX12_back : MethodName := ⟨RX12, "back", "(I)I"⟩
abbrev cX12_at : ByteArray := prog_14_method_6_code
def yX12_at : MethodName := ⟨RX12, "at", "(I)I"⟩
abbrev cX12_isDigit : ByteArray := prog_14_method_7_code
def yX12_isDigit : MethodName := ⟨RX12, "isDigit", "(I)Z"⟩
abbrev cX12_isLetter : ByteArray := prog_14_method_8_code
def yX12_isLetter : MethodName := ⟨RX12, "isLetter", "(I)Z"⟩
abbrev cX12_more : ByteArray := prog_14_method_9_code
def yX12_more : MethodName := ⟨RX12, "more", "(JI)J"⟩
abbrev cX12_word : ByteArray := prog_14_method_10_code
def yX12_word : MethodName := ⟨RX12, "word", "(IIIIIIII)J"⟩
abbrev cX12_token : ByteArray := prog_14_method_11_code
def yX12_token : MethodName := ⟨RX12, "token", "(IIIJ)V"⟩
abbrev cX12_cut : ByteArray := prog_14_method_12_code
def yX12_cut : MethodName := ⟨RX12, "cut", "()V"⟩
abbrev cX12_sign : ByteArray := prog_14_method_13_code
def yX12_sign : MethodName := ⟨RX12, "sign", "(III)I"⟩
abbrev cX12_is : ByteArray := prog_14_method_14_code
def yX12_is : MethodName := ⟨RX12, "is", "(I)Z"⟩
abbrev cX12_fail : ByteArray := prog_14_method_15_code
def yX12_fail : MethodName := ⟨RX12, "fail", "(I)V"⟩
abbrev cX12_wrong : ByteArray := prog_14_method_16_code
def yX12_wrong : MethodName := ⟨RX12, "wrong", "(II)V"⟩
abbrev cX12_next : ByteArray := prog_14_method_17_code
def yX12_next : MethodName := ⟨RX12, "next", "()V"⟩
abbrev cX12_must : ByteArray := prog_14_method_18_code
def yX12_must : MethodName := ⟨RX12, "must", "(I)V"⟩
abbrev cX12_read : ByteArray := prog_14_method_19_code
def yX12_read : MethodName := ⟨RX12, "read", "()I"⟩
abbrev cX12_place : ByteArray := prog_14_method_20_code
def yX12_place : MethodName := ⟨RX12, "place", "()I"⟩
abbrev cX12_tellLecture : ByteArray := prog_14_method_21_code
def yX12_tellLecture : MethodName := ⟨RX12, "tellLecture", "()V"⟩
abbrev cX12_tellCue : ByteArray := prog_14_method_22_code
def yX12_tellCue : MethodName := ⟨RX12, "tellCue", "(I)V"⟩
abbrev cX12_tellHire : ByteArray := prog_14_method_23_code
def yX12_tellHire : MethodName := ⟨RX12, "tellHire", "(I)V"⟩
abbrev cX12_relation : ByteArray := prog_14_method_24_code
def yX12_relation : MethodName := ⟨RX12, "relation", "()V"⟩
abbrev cX12_emit : ByteArray := prog_14_method_25_code
def yX12_emit : MethodName := ⟨RX12, "emit", "(II)V"⟩
abbrev cX12_comesOut : ByteArray := prog_14_method_26_code
def yX12_comesOut : MethodName := ⟨RX12, "comesOut", "(Z)V"⟩
abbrev cX12_expression : ByteArray := prog_14_method_27_code
def yX12_expression : MethodName := ⟨RX12, "expression", "()V"⟩
abbrev cX12_isHall : ByteArray := prog_14_method_28_code
def yX12_isHall : MethodName := ⟨RX12, "isHall", "(I)Z"⟩
abbrev cX12_isPlate : ByteArray := prog_14_method_29_code
def yX12_isPlate : MethodName := ⟨RX12, "isPlate", "(I)Z"⟩
abbrev cX12_isHour : ByteArray := prog_14_method_30_code
def yX12_isHour : MethodName := ⟨RX12, "isHour", "(I)Z"⟩
abbrev cX12_isKnown : ByteArray := prog_14_method_31_code
def yX12_isKnown : MethodName := ⟨RX12, "isKnown", "(I)Z"⟩
abbrev cX12_hall : ByteArray := prog_14_method_32_code
def yX12_hall : MethodName := ⟨RX12, "hall", "()I"⟩
abbrev cX12_train : ByteArray := prog_14_method_33_code
def yX12_train : MethodName := ⟨RX12, "train", "(IIII)I"⟩
abbrev cX12_plate : ByteArray := prog_14_method_34_code
def yX12_plate : MethodName := ⟨RX12, "plate", "(I)I"⟩
abbrev cX12_cleaning : ByteArray := prog_14_method_35_code
def yX12_cleaning : MethodName := ⟨RX12, "cleaning", "(I)Z"⟩
abbrev cX12_fact : ByteArray := prog_14_method_36_code
def yX12_fact : MethodName := ⟨RX12, "fact", "(III)I"⟩
abbrev cX12_cancel : ByteArray := prog_14_method_37_code
def yX12_cancel : MethodName := ⟨RX12, "cancel", "(II)I"⟩
abbrev cX12_look : ByteArray := prog_14_method_38_code
def yX12_look : MethodName := ⟨RX12, "look", "(IIZ)I"⟩
abbrev cX12_isBroken : ByteArray := prog_14_method_39_code
def yX12_isBroken : MethodName := ⟨RX12, "isBroken", "(III)Z"⟩
abbrev cX12_broken : ByteArray := prog_14_method_40_code
def yX12_broken : MethodName := ⟨RX12, "broken", "(III)I"⟩
abbrev cX12_knows : ByteArray := prog_14_method_41_code
def yX12_knows : MethodName := ⟨RX12, "knows", "(I)V"⟩
abbrev cX12_comesBy : ByteArray := prog_14_method_42_code
def yX12_comesBy : MethodName := ⟨RX12, "comesBy", "(III)I"⟩
abbrev cX12_wayTo : ByteArray := prog_14_method_43_code
def yX12_wayTo : MethodName := ⟨RX12, "wayTo", "(III)I"⟩
abbrev cX12_way : ByteArray := prog_14_method_44_code
def yX12_way : MethodName := ⟨RX12, "way", "(IIII)I"⟩
abbrev cX12_show : ByteArray := prog_14_method_45_code
def yX12_show : MethodName := ⟨RX12, "show", "(IIIII)I"⟩
abbrev cX12_keeps : ByteArray := prog_14_method_46_code
def yX12_keeps : MethodName := ⟨RX12, "keeps", "(II)Z"⟩
abbrev cX12_keepsShow : ByteArray := prog_14_method_47_code
def yX12_keepsShow : MethodName := ⟨RX12, "keepsShow", "(II)Z"⟩
abbrev cX12_takes : ByteArray := prog_14_method_48_code
def yX12_takes : MethodName := ⟨RX12, "takes", "(IIIII)V"⟩
abbrev cX12_worthOf : ByteArray := prog_14_method_49_code
def yX12_worthOf : MethodName := ⟨RX12, "worthOf", "(I)I"⟩
abbrev cX12_can : ByteArray := prog_14_method_50_code
def yX12_can : MethodName := ⟨RX12, "can", "(II)I"⟩
abbrev cX12_bits : ByteArray := prog_14_method_51_code
def yX12_bits : MethodName := ⟨RX12, "bits", "(I)I"⟩
abbrev cX12_makes : ByteArray := prog_14_method_52_code
def yX12_makes : MethodName := ⟨RX12, "makes", "(IZ)V"⟩
abbrev cX12_isAhead : ByteArray := prog_14_method_53_code
def yX12_isAhead : MethodName := ⟨RX12, "isAhead", "(IIIIZ)Z"⟩
abbrev cX12_make : ByteArray := prog_14_method_54_code
def yX12_make : MethodName := ⟨RX12, "make", "(I)I"⟩
abbrev cX12_mend : ByteArray := prog_14_method_55_code
def yX12_mend : MethodName := ⟨RX12, "mend", "(I)I"⟩
abbrev cX12_isKept : ByteArray := prog_14_method_56_code
def yX12_isKept : MethodName := ⟨RX12, "isKept", "(I)Z"⟩
abbrev cX12_told : ByteArray := prog_14_method_57_code
def yX12_told : MethodName := ⟨RX12, "told", "(II)I"⟩
abbrev cX12_goesThrough : ByteArray := prog_14_method_58_code
def yX12_goesThrough : MethodName := ⟨RX12, "goesThrough", "(I)V"⟩
abbrev cX12_value : ByteArray := prog_14_method_59_code
def yX12_value : MethodName := ⟨RX12, "value", "(II)I"⟩
abbrev cX12_holds : ByteArray := prog_14_method_60_code
def yX12_holds : MethodName := ⟨RX12, "holds", "(I)Z"⟩
abbrev cX12_hireOf : ByteArray := prog_14_method_61_code
def yX12_hireOf : MethodName := ⟨RX12, "hireOf", "(I)I"⟩
abbrev cX12_cue : ByteArray := prog_14_method_62_code
def yX12_cue : MethodName := ⟨RX12, "cue", "(III)I"⟩
abbrev cX12_showing : ByteArray := prog_14_method_63_code
def yX12_showing : MethodName := ⟨RX12, "showing", "(II)I"⟩
abbrev cX12_cueOf : ByteArray := prog_14_method_64_code
def yX12_cueOf : MethodName := ⟨RX12, "cueOf", "(II)I"⟩
abbrev cX12_blame : ByteArray := prog_14_method_65_code
def yX12_blame : MethodName := ⟨RX12, "blame", "(II)I"⟩
abbrev cX12_where : ByteArray := prog_14_method_66_code
def yX12_where : MethodName := ⟨RX12, "where", "(II)I"⟩
abbrev cX12_count : ByteArray := prog_14_method_67_code
def yX12_count : MethodName := ⟨RX12, "count", "(I)I"⟩
def RJ6 : String := "java/lang/Integer"
def TJ6 : u_T := fun k => match k with
  | _ => ("", "", "", false)
def tyJ6 : Nat → FieldType := fun k => match k with
  | _ => .int
abbrev cJ6_bitCount_0f7a4 : ByteArray := prog_15_method_49_code
def yJ6_bitCount_0f7a4 : MethodName := ⟨RJ6, "bitCount", "(I)I"⟩
def RJ9 : String := "java/lang/Math"
def TJ9 : u_T := fun k => match k with
  | _ => ("", "", "", false)
def tyJ9 : Nat → FieldType := fun k => match k with
  | _ => .int
abbrev cJ9_max_7cf53 : ByteArray := prog_16_method_65_code
def yJ9_max_7cf53 : MethodName := ⟨RJ9, "max", "(II)I"⟩
def RJ0 : String := "java/lang/String"
def TJ0 : u_T := fun k => match k with
  | _ => ("", "", "", false)
def tyJ0 : Nat → FieldType := fun k => match k with
  | _ => .int
abbrev cJ0_length_8abf5 : ByteArray := prog_17_method_54_code
def yJ0_length_8abf5 : MethodName := ⟨RJ0, "length", "()I"⟩
abbrev cJ0_charAt_5068e : ByteArray := prog_17_method_56_code
def yJ0_charAt_5068e : MethodName := ⟨RJ0, "charAt", "(I)C"⟩
abbrev cJ0_coder_7d493 : ByteArray := prog_17_method_152_code
def yJ0_coder_7d493 : MethodName := ⟨RJ0, "coder", "()B"⟩
abbrev cJ0_isLatin1_aae02 : ByteArray := prog_17_method_154_code
def yJ0_isLatin1_aae02 : MethodName := ⟨RJ0, "isLatin1", "()Z"⟩
abbrev cJ0_checkIndex_df160 : ByteArray := prog_17_method_155_code
def yJ0_checkIndex_df160 : MethodName := ⟨RJ0, "checkIndex", "(II)V"⟩
def RJ1 : String := "java/lang/StringLatin1"
def TJ1 : u_T := fun k => match k with
  | _ => ("", "", "", false)
def tyJ1 : Nat → FieldType := fun k => match k with
  | _ => .int
abbrev cJ1_charAt_3b067 : ByteArray := prog_18_method_2_code
def yJ1_charAt_3b067 : MethodName := ⟨RJ1, "charAt", "([BI)C"⟩
def RJ2 : String := "java/lang/StringUTF16"
def TJ2 : u_T := fun k => match k with
  | _ => ("", "", "", false)
def tyJ2 : Nat → FieldType := fun k => match k with
  | _ => .int
abbrev cJ2_getChar_3b067 : ByteArray := prog_19_method_5_code
def yJ2_getChar_3b067 : MethodName := ⟨RJ2, "getChar", "([BI)C"⟩
abbrev cJ2_length_9d52b : ByteArray := prog_19_method_6_code
def yJ2_length_9d52b : MethodName := ⟨RJ2, "length", "([B)I"⟩
abbrev cJ2_charAt_3b067 : ByteArray := prog_19_method_83_code
def yJ2_charAt_3b067 : MethodName := ⟨RJ2, "charAt", "([BI)C"⟩
abbrev cJ2_checkIndex_2214a : ByteArray := prog_19_method_91_code
def yJ2_checkIndex_2214a : MethodName := ⟨RJ2, "checkIndex", "(I[B)V"⟩
def RJ7 : String := "java/util/Arrays"
def TJ7 : u_T := fun k => match k with
  | _ => ("", "", "", false)
def tyJ7 : Nat → FieldType := fun k => match k with
  | _ => .int
abbrev cJ7_fill_d0a16 : ByteArray := prog_20_method_101_code
def yJ7_fill_d0a16 : MethodName := ⟨RJ7, "fill", "([JJ)V"⟩
abbrev cJ7_fill_53178 : ByteArray := prog_20_method_103_code
def yJ7_fill_53178 : MethodName := ⟨RJ7, "fill", "([II)V"⟩
def RJ3 : String := "jdk/internal/util/Preconditions"
def TJ3 : u_T := fun k => match k with
  | _ => ("", "", "", false)
def tyJ3 : Nat → FieldType := fun k => match k with
  | _ => .int
abbrev cJ3_checkIndex_8e157 : ByteArray := prog_21_method_11_code
def yJ3_checkIndex_8e157 : MethodName := ⟨RJ3, "checkIndex", "(IILjava/util/function/BiFunction;)I"⟩
def RL : String := "LanternHouseLaw"
abbrev cL_law : ByteArray := code
def yL_law : MethodName := ⟨RL, "law", "([I)Z"⟩
abbrev vwCl : List vw_C := [(RX0, TX0, 5), (RX1, TX1, 8), (RX2, TX2, 13), (RX3, TX3, 8), (RX4, TX4, 8), (RX5, TX5, 11), (RX6, TX6, 12), (RX7, TX7, 8), (RX8, TX8, 3), (RX9, TX9, 2), (RX10, TX10, 3), (RX11, TX11, 13), (RX12, TX12, 87)]
def wsX0_init : List Cond := .code yX0_init cX0_init 1 none :: ([.methodLink RX0 3 objectInit, .instanceMethod objectInit, .code objectInit ⟨#[0xb1]⟩ 1 none, .arrayClass .int, .fieldLink RX0 11 "LanternHouse$Facts" "sorts" "[I", .fieldLink RX0 15 "LanternHouse$Facts" "subjects" "[I", .fieldLink RX0 18 "LanternHouse$Facts" "times" "[I", .fieldLink RX0 23 "LanternHouse$Facts" "latest" "[I", .fieldLink RX0 26 "LanternHouse$Facts" "size" "I"] ++ wsX00)
def wsX0_isKnown : List Cond := .code yX0_isKnown cX0_isKnown 2 (some .boolean) :: ([.fieldLink RX0 26 "LanternHouse$Facts" "size" "I"] ++ wsX00)
def wsJ7_fill_53178 : List Cond := .code yJ7_fill_53178 cJ7_fill_53178 4 none :: ([])
def wsX1_init : List Cond := .code yX1_init cX1_init 5 none :: ([.methodLink RX1 5 objectInit, .instanceMethod objectInit, .code objectInit ⟨#[0xb1]⟩ 1 none, .classLink RX1 13 "[[I", .arrayClass .int, .fieldLink RX1 15 "LanternHouse$Keeper" "arrivals" "[[I", .fieldLink RX1 20 "LanternHouse$Keeper" "broken" "[I", .fieldLink RX1 26 "LanternHouse$Keeper" "freeAt" "[I", .fieldLink RX1 29 "LanternHouse$Keeper" "cleaningHours" "I", .fieldLink RX1 33 "LanternHouse$Keeper" "shows" "LLanternHouse$Shows;", .fieldLink RX1 37 "LanternHouse$Keeper" "stock" "LLanternHouse$Stock;", .fieldLink RX1 41 "LanternHouse$Keeper" "facts" "LLanternHouse$Facts;", .fieldLink RX1 45 "LanternHouse$Keeper" "rails" "LLanternHouse$Rails;"] ++ wsX10)
def wsJ7_fill_d0a16 : List Cond := .code yJ7_fill_d0a16 cJ7_fill_d0a16 5 none :: ([])
def wsX4_learn : List Cond := .code yX4_learn cX4_learn 4 none :: ([.fieldLink RX4 24 "LanternHouse$Rails" "idleDays" "[J", .fieldLink RX4 48 "LanternHouse$Facts" "sorts" "[I", .fieldLink RX4 53 "LanternHouse$Facts" "subjects" "[I", .fieldLink RX4 56 "LanternHouse$Facts" "times" "[I", .methodLink RX4 42 yJ7_fill_d0a16, .static yJ7_fill_d0a16, .initialized RJ7, .code yJ7_fill_d0a16 cJ7_fill_d0a16 5 none] ++ wsX40 ++ wsX00)
def wsX4_spread : List Cond := .code yX4_spread cX4_spread 11 none :: ([.fieldLink RX4 35 "LanternHouse$Rails" "trains" "I", .fieldLink RX4 11 "LanternHouse$Rails" "froms" "[I", .fieldLink RX4 15 "LanternHouse$Rails" "tos" "[I", .methodLink RX4 63 yJ7_fill_53178, .static yJ7_fill_53178, .initialized RJ7, .code yJ7_fill_53178 cJ7_fill_53178 4 none, .methodLink RX4 66 yX4_arrival, .instanceMethod yX4_arrival, .selects RX4 yX4_arrival yX4_arrival, .initialized RX4, .code yX4_arrival cX4_arrival 5 (some .int), .fieldLink RX4 18 "LanternHouse$Rails" "hours" "[I", .fieldLink RX4 24 "LanternHouse$Rails" "idleDays" "[J", .fieldLink RX4 21 "LanternHouse$Rails" "lengths" "[I"] ++ wsX40)
def wsX1_prepare_r1 : List Cond := [Cond.fieldLink RX1 45 "LanternHouse$Keeper" "rails" "LLanternHouse$Rails;", Cond.fieldLink RX1 41 "LanternHouse$Keeper" "facts" "LLanternHouse$Facts;", Cond.fieldLink RX1 15 "LanternHouse$Keeper" "arrivals" "[[I", Cond.fieldLink RX1 33 "LanternHouse$Keeper" "shows" "LLanternHouse$Shows;", Cond.fieldLink RX1 57 "LanternHouse$Shows" "size" "I", Cond.fieldLink RX1 60 "LanternHouse$Shows" "halls" "[I", Cond.fieldLink RX1 29 "LanternHouse$Keeper" "cleaningHours" "I", Cond.fieldLink RX1 20 "LanternHouse$Keeper" "broken" "[I", Cond.methodLink RX1 49 yX4_learn, Cond.instanceMethod yX4_learn, Cond.selects RX4 yX4_learn yX4_learn, Cond.initialized RX4, Cond.code yX4_learn cX4_learn 4 none, Cond.fieldLink RX4 24 "LanternHouse$Rails" "idleDays" "[J", Cond.fieldLink RX4 48 "LanternHouse$Facts" "sorts" "[I", Cond.fieldLink RX4 53 "LanternHouse$Facts" "subjects" "[I", Cond.fieldLink RX4 56 "LanternHouse$Facts" "times" "[I", Cond.methodLink RX4 42 yJ7_fill_d0a16, Cond.static yJ7_fill_d0a16, Cond.initialized RJ7, Cond.code yJ7_fill_d0a16 cJ7_fill_d0a16 5 none, Cond.methodLink RX1 53 yX4_spread, Cond.instanceMethod yX4_spread, Cond.selects RX4 yX4_spread yX4_spread]
def wsX1_prepare_r2 : List Cond := [Cond.code yX4_spread cX4_spread 11 none, Cond.fieldLink RX4 35 "LanternHouse$Rails" "trains" "I", Cond.fieldLink RX4 11 "LanternHouse$Rails" "froms" "[I", Cond.fieldLink RX4 15 "LanternHouse$Rails" "tos" "[I", Cond.methodLink RX4 63 yJ7_fill_53178, Cond.static yJ7_fill_53178, Cond.code yJ7_fill_53178 cJ7_fill_53178 4 none, Cond.methodLink RX4 66 yX4_arrival, Cond.instanceMethod yX4_arrival, Cond.selects RX4 yX4_arrival yX4_arrival, Cond.code yX4_arrival cX4_arrival 5 (some .int), Cond.fieldLink RX4 18 "LanternHouse$Rails" "hours" "[I", Cond.fieldLink RX4 21 "LanternHouse$Rails" "lengths" "[I", Cond.methodLink RX1 63 yX7_freeHour, Cond.instanceMethod yX7_freeHour, Cond.selects RX7 yX7_freeHour yX7_freeHour, Cond.initialized RX7, Cond.code yX7_freeHour cX7_freeHour 2 (some .int), Cond.fieldLink RX7 11 "LanternHouse$Shows" "nights" "[I", Cond.methodLink RX1 67 yX7_dueHour, Cond.instanceMethod yX7_dueHour, Cond.selects RX7 yX7_dueHour yX7_dueHour, Cond.code yX7_dueHour cX7_dueHour 2 (some .int), Cond.methodLink RX1 70 yX0_brokenPlates]
def wsX1_prepare_r3 : List Cond := [Cond.instanceMethod yX0_brokenPlates, Cond.selects RX0 yX0_brokenPlates yX0_brokenPlates, Cond.initialized RX0, Cond.code yX0_brokenPlates cX0_brokenPlates 7 (some .int), Cond.fieldLink RX0 23 "LanternHouse$Facts" "latest" "[I", Cond.fieldLink RX0 15 "LanternHouse$Facts" "subjects" "[I", Cond.fieldLink RX0 11 "LanternHouse$Facts" "sorts" "[I", Cond.fieldLink RX0 18 "LanternHouse$Facts" "times" "[I", Cond.methodLink RX0 30 yJ7_fill_53178]
def wsX1_prepare : List Cond := .code yX1_prepare cX1_prepare 3 none :: ((wsX1_prepare_r1 ++ (wsX1_prepare_r2 ++ wsX1_prepare_r3)) ++ wsX10 ++ wsX70 ++ wsX40 ++ wsX00)
def wsX7_worthOf : List Cond := .code yX7_worthOf cX7_worthOf 4 (some .int) :: ([.fieldLink RX7 30 "LanternHouse$Shows" "size" "I", .fieldLink RX7 24 "LanternHouse$Shows" "worths" "[I"] ++ wsX70)
def wsX3_begin : List Cond := .code yX3_begin cX3_begin 3 none :: ([.fieldLink RX3 26 "LanternHouse$Plan" "set" "I", .fieldLink RX3 30 "LanternHouse$Plan" "worth" "I", .fieldLink RX3 33 "LanternHouse$Plan" "changes" "I", .fieldLink RX3 36 "LanternHouse$Plan" "missed" "I", .fieldLink RX3 39 "LanternHouse$Plan" "instead" "I"] ++ wsX30)
def wsX1_keep_r1 : List Cond := [Cond.fieldLink RX1 33 "LanternHouse$Keeper" "shows" "LLanternHouse$Shows;", Cond.fieldLink RX1 26 "LanternHouse$Keeper" "freeAt" "[I", Cond.fieldLink RX1 57 "LanternHouse$Shows" "size" "I", Cond.fieldLink RX1 91 "LanternHouse$Shows" "order" "[I", Cond.methodLink RX1 76 yX7_worthOf, Cond.instanceMethod yX7_worthOf, Cond.selects RX7 yX7_worthOf yX7_worthOf, Cond.initialized RX7, Cond.code yX7_worthOf cX7_worthOf 4 (some .int), Cond.fieldLink RX7 30 "LanternHouse$Shows" "size" "I", Cond.fieldLink RX7 24 "LanternHouse$Shows" "worths" "[I", Cond.methodLink RX1 79 yX3_begin, Cond.instanceMethod yX3_begin, Cond.selects RX3 yX3_begin yX3_begin, Cond.initialized RX3, Cond.code yX3_begin cX3_begin 3 none, Cond.fieldLink RX3 26 "LanternHouse$Plan" "set" "I", Cond.fieldLink RX3 30 "LanternHouse$Plan" "worth" "I", Cond.fieldLink RX3 33 "LanternHouse$Plan" "changes" "I", Cond.fieldLink RX3 36 "LanternHouse$Plan" "missed" "I", Cond.fieldLink RX3 39 "LanternHouse$Plan" "instead" "I", Cond.methodLink RX1 85 yJ7_fill_53178, Cond.static yJ7_fill_53178, Cond.initialized RJ7]
def wsX1_keep_r2 : List Cond := [Cond.code yJ7_fill_53178 cJ7_fill_53178 4 none, Cond.methodLink RX1 94 yX3_has, Cond.instanceMethod yX3_has, Cond.selects RX3 yX3_has yX3_has, Cond.code yX3_has cX3_has 2 (some .boolean), Cond.methodLink RX1 98 yX1_keepShow, Cond.instanceMethod yX1_keepShow, Cond.selects RX1 yX1_keepShow yX1_keepShow, Cond.initialized RX1, Cond.code yX1_keepShow cX1_keepShow 11 (some .boolean), Cond.fieldLink RX1 102 "LanternHouse$Shows" "text" "LLanternHouse$Lectures;", Cond.fieldLink RX1 106 "LanternHouse$Shows" "lectures" "[I", Cond.fieldLink RX1 120 "LanternHouse$Lectures" "musts" "[Z", Cond.fieldLink RX1 131 "LanternHouse$Lectures" "kinds" "[I", Cond.fieldLink RX1 37 "LanternHouse$Keeper" "stock" "LLanternHouse$Stock;", Cond.fieldLink RX1 134 "LanternHouse$Stock" "platesOfKind" "[I", Cond.methodLink RX1 111 yX1_platesThatCome, Cond.instanceMethod yX1_platesThatCome, Cond.selects RX1 yX1_platesThatCome yX1_platesThatCome, Cond.code yX1_platesThatCome cX1_platesThatCome 5 (some .int), Cond.fieldLink RX1 147 "LanternHouse$Stock" "size" "I", Cond.fieldLink RX1 15 "LanternHouse$Keeper" "arrivals" "[[I", Cond.fieldLink RX1 60 "LanternHouse$Shows" "halls" "[I", Cond.fieldLink RX1 20 "LanternHouse$Keeper" "broken" "[I"]
def wsX1_keep_r3 : List Cond := [Cond.methodLink RX1 67 yX7_dueHour, Cond.instanceMethod yX7_dueHour, Cond.selects RX7 yX7_dueHour yX7_dueHour, Cond.code yX7_dueHour cX7_dueHour 2 (some .int), Cond.fieldLink RX7 11 "LanternHouse$Shows" "nights" "[I", Cond.methodLink RX1 114 yX7_cuesOf, Cond.instanceMethod yX7_cuesOf, Cond.selects RX7 yX7_cuesOf yX7_cuesOf, Cond.code yX7_cuesOf cX7_cuesOf 2 (some .int), Cond.fieldLink RX7 34 "LanternHouse$Shows" "text" "LLanternHouse$Lectures;", Cond.fieldLink RX7 49 "LanternHouse$Lectures" "cueCounts" "[I", Cond.fieldLink RX7 18 "LanternHouse$Shows" "lectures" "[I", Cond.methodLink RX1 117 yX1_firstChoice, Cond.instanceMethod yX1_firstChoice, Cond.selects RX1 yX1_firstChoice yX1_firstChoice, Cond.code yX1_firstChoice cX1_firstChoice 6 (some .int), Cond.fieldLink RX1 148 "LanternHouse$Lectures" "kindCounts" "[I", Cond.methodLink RX1 124 yX3_slot, Cond.static yX3_slot, Cond.code yX3_slot cX3_slot 2 (some .int), Cond.methodLink RX1 127 yX3_miss, Cond.instanceMethod yX3_miss, Cond.selects RX3 yX3_miss yX3_miss, Cond.code yX3_miss cX3_miss 2 none]
def wsX1_keep_r4 : List Cond := [Cond.fieldLink RX3 13 "LanternHouse$Plan" "plates" "[I", Cond.fieldLink RX3 19 "LanternHouse$Plan" "wayEnds" "[I", Cond.fieldLink RX3 22 "LanternHouse$Plan" "standIns" "[Z", Cond.methodLink RX1 137 yX1_lowestOf, Cond.static yX1_lowestOf, Cond.code yX1_lowestOf cX1_lowestOf 1 (some .int), Cond.methodLink RX1 151 yJ6_bitCount_0f7a4, Cond.static yJ6_bitCount_0f7a4, Cond.initialized RJ6, Cond.code yJ6_bitCount_0f7a4 cJ6_bitCount_0f7a4 1 (some .int), Cond.constant RJ6 265 (1431655765), Cond.constant RJ6 266 (858993459), Cond.constant RJ6 267 (252645135), Cond.methodLink RX1 140 yX1_wayEnd, Cond.instanceMethod yX1_wayEnd, Cond.selects RX1 yX1_wayEnd yX1_wayEnd, Cond.code yX1_wayEnd cX1_wayEnd 6 (some .int), Cond.methodLink RX1 143 yX3_give, Cond.instanceMethod yX3_give, Cond.selects RX3 yX3_give yX3_give, Cond.code yX3_give cX3_give 5 none]
def wsX1_keep : List Cond := .code yX1_keep cX1_keep 5 (some .boolean) :: ((wsX1_keep_r1 ++ (wsX1_keep_r2 ++ (wsX1_keep_r3 ++ wsX1_keep_r4))) ++ wsX10 ++ wsX70 ++ wsX30 ++ wsX20 ++ wsX80)
def wsX2_init : List Cond := .code yX2_init cX2_init 1 none :: ([.methodLink RX2 1 objectInit, .instanceMethod objectInit, .code objectInit ⟨#[0xb1]⟩ 1 none, .arrayClass .long, .fieldLink RX2 9 "LanternHouse$Lectures" "names" "[J", .arrayClass .int, .fieldLink RX2 13 "LanternHouse$Lectures" "cueCounts" "[I", .fieldLink RX2 17 "LanternHouse$Lectures" "hireCounts" "[I", .arrayClass .boolean, .fieldLink RX2 20 "LanternHouse$Lectures" "musts" "[Z", .fieldLink RX2 24 "LanternHouse$Lectures" "kindCounts" "[I", .fieldLink RX2 27 "LanternHouse$Lectures" "kinds" "[I", .fieldLink RX2 30 "LanternHouse$Lectures" "minutes" "[I", .fieldLink RX2 33 "LanternHouse$Lectures" "fades" "[I", .fieldLink RX2 36 "LanternHouse$Lectures" "hireStarts" "[I", .fieldLink RX2 39 "LanternHouse$Lectures" "hireEnds" "[I", .fieldLink RX2 44 "LanternHouse$Lectures" "code" "[I", .fieldLink RX2 47 "LanternHouse$Lectures" "codeSize" "I", .fieldLink RX2 51 "LanternHouse$Lectures" "size" "I"] ++ wsX20)
def wsX2_clear : List Cond := .code yX2_clear cX2_clear 1 none :: ([.fieldLink RX2 51 "LanternHouse$Lectures" "size" "I", .fieldLink RX2 47 "LanternHouse$Lectures" "codeSize" "I"] ++ wsX20)
def wsX3_init : List Cond := .code yX3_init cX3_init 1 none :: ([.methodLink RX3 3 objectInit, .instanceMethod objectInit, .code objectInit ⟨#[0xb1]⟩ 1 none, .arrayClass .int, .fieldLink RX3 13 "LanternHouse$Plan" "plates" "[I", .fieldLink RX3 19 "LanternHouse$Plan" "wayEnds" "[I", .arrayClass .boolean, .fieldLink RX3 22 "LanternHouse$Plan" "standIns" "[Z", .fieldLink RX3 26 "LanternHouse$Plan" "set" "I", .fieldLink RX3 30 "LanternHouse$Plan" "worth" "I", .fieldLink RX3 33 "LanternHouse$Plan" "changes" "I", .fieldLink RX3 36 "LanternHouse$Plan" "missed" "I", .fieldLink RX3 39 "LanternHouse$Plan" "instead" "I"] ++ wsX30)
def wsX4_init : List Cond := .code yX4_init cX4_init 1 none :: ([.methodLink RX4 3 objectInit, .instanceMethod objectInit, .code objectInit ⟨#[0xb1]⟩ 1 none, .arrayClass .int, .fieldLink RX4 11 "LanternHouse$Rails" "froms" "[I", .fieldLink RX4 15 "LanternHouse$Rails" "tos" "[I", .fieldLink RX4 18 "LanternHouse$Rails" "hours" "[I", .fieldLink RX4 21 "LanternHouse$Rails" "lengths" "[I", .arrayClass .long, .fieldLink RX4 24 "LanternHouse$Rails" "idleDays" "[J", .fieldLink RX4 28 "LanternHouse$Rails" "reached" "[I", .fieldLink RX4 31 "LanternHouse$Rails" "halls" "I", .fieldLink RX4 35 "LanternHouse$Rails" "trains" "I"] ++ wsX40)
def wsX4_addHall : List Cond := .code yX4_addHall cX4_addHall 1 (some .int) :: ([.fieldLink RX4 31 "LanternHouse$Rails" "halls" "I"] ++ wsX40)
def wsX4_isHall : List Cond := .code yX4_isHall cX4_isHall 2 (some .boolean) :: ([.fieldLink RX4 31 "LanternHouse$Rails" "halls" "I"] ++ wsX40)
def wsX4_addTrain : List Cond := .code yX4_addTrain cX4_addTrain 5 (some .int) :: ([.fieldLink RX4 35 "LanternHouse$Rails" "trains" "I", .fieldLink RX4 11 "LanternHouse$Rails" "froms" "[I", .fieldLink RX4 15 "LanternHouse$Rails" "tos" "[I", .fieldLink RX4 18 "LanternHouse$Rails" "hours" "[I", .fieldLink RX4 21 "LanternHouse$Rails" "lengths" "[I", .methodLink RX4 38 yX4_isHall, .instanceMethod yX4_isHall, .selects RX4 yX4_isHall yX4_isHall, .initialized RX4, .code yX4_isHall cX4_isHall 2 (some .boolean), .fieldLink RX4 31 "LanternHouse$Rails" "halls" "I"] ++ wsX40)
def wsX4_soonest : List Cond := .code yX4_soonest cX4_soonest 4 (some .int) :: ([.fieldLink RX4 28 "LanternHouse$Rails" "reached" "[I", .methodLink RX4 59 yX4_spread, .instanceMethod yX4_spread, .selects RX4 yX4_spread yX4_spread, .initialized RX4, .code yX4_spread cX4_spread 11 none, .fieldLink RX4 35 "LanternHouse$Rails" "trains" "I", .fieldLink RX4 11 "LanternHouse$Rails" "froms" "[I", .fieldLink RX4 15 "LanternHouse$Rails" "tos" "[I", .methodLink RX4 63 yJ7_fill_53178, .static yJ7_fill_53178, .initialized RJ7, .code yJ7_fill_53178 cJ7_fill_53178 4 none, .methodLink RX4 66 yX4_arrival, .instanceMethod yX4_arrival, .selects RX4 yX4_arrival yX4_arrival, .code yX4_arrival cX4_arrival 5 (some .int), .fieldLink RX4 18 "LanternHouse$Rails" "hours" "[I", .fieldLink RX4 24 "LanternHouse$Rails" "idleDays" "[J", .fieldLink RX4 21 "LanternHouse$Rails" "lengths" "[I"] ++ wsX40)
def wsX5_init : List Cond := .code yX5_init cX5_init 2 none :: ([.methodLink RX5 5 objectInit, .instanceMethod objectInit, .code objectInit ⟨#[0xb1]⟩ 1 none, .arrayClass .int, .fieldLink RX5 11 "LanternHouse$Reader" "waiting" "[I", .fieldLink RX5 15 "LanternHouse$Reader" "waitingCount" "I", .fieldLink RX5 19 "LanternHouse$Reader" "at" "I", .fieldLink RX5 22 "LanternHouse$Reader" "value" "J", .fieldLink RX5 26 "LanternHouse$Reader" "valuePlace" "I", .fieldLink RX5 29 "LanternHouse$Reader" "fault" "I", .fieldLink RX5 32 "LanternHouse$Reader" "faultPlace" "I", .fieldLink RX5 35 "LanternHouse$Reader" "noted" "I", .fieldLink RX5 38 "LanternHouse$Reader" "notedPlace" "I", .fieldLink RX5 41 "LanternHouse$Reader" "tokens" "LLanternHouse$Tokens;"] ++ wsX50)
def wsX5_begin : List Cond := .code yX5_begin cX5_begin 2 none :: ([.fieldLink RX5 63 "LanternHouse$Reader" "text" "LLanternHouse$Lectures;", .fieldLink RX5 19 "LanternHouse$Reader" "at" "I", .fieldLink RX5 29 "LanternHouse$Reader" "fault" "I", .fieldLink RX5 32 "LanternHouse$Reader" "faultPlace" "I", .fieldLink RX5 35 "LanternHouse$Reader" "noted" "I", .fieldLink RX5 38 "LanternHouse$Reader" "notedPlace" "I", .methodLink RX5 67 yX2_clear, .instanceMethod yX2_clear, .selects RX2 yX2_clear yX2_clear, .initialized RX2, .code yX2_clear cX2_clear 1 none, .fieldLink RX2 51 "LanternHouse$Lectures" "size" "I", .fieldLink RX2 47 "LanternHouse$Lectures" "codeSize" "I"] ++ wsX50 ++ wsX20)
def wsX5_parse_r1 : List Cond := [Cond.fieldLink RX5 41 "LanternHouse$Reader" "tokens" "LLanternHouse$Tokens;", Cond.fieldLink RX5 51 "LanternHouse$Tokens" "sorts" "[I", Cond.fieldLink RX5 19 "LanternHouse$Reader" "at" "I", Cond.fieldLink RX5 35 "LanternHouse$Reader" "noted" "I", Cond.fieldLink RX5 29 "LanternHouse$Reader" "fault" "I", Cond.fieldLink RX5 38 "LanternHouse$Reader" "notedPlace" "I", Cond.fieldLink RX5 32 "LanternHouse$Reader" "faultPlace" "I", Cond.methodLink RX5 45 yX5_begin, Cond.instanceMethod yX5_begin, Cond.selects RX5 yX5_begin yX5_begin, Cond.initialized RX5, Cond.code yX5_begin cX5_begin 2 none, Cond.fieldLink RX5 63 "LanternHouse$Reader" "text" "LLanternHouse$Lectures;", Cond.methodLink RX5 67 yX2_clear, Cond.instanceMethod yX2_clear, Cond.selects RX2 yX2_clear yX2_clear, Cond.initialized RX2, Cond.code yX2_clear cX2_clear 1 none, Cond.fieldLink RX2 51 "LanternHouse$Lectures" "size" "I", Cond.fieldLink RX2 47 "LanternHouse$Lectures" "codeSize" "I", Cond.methodLink RX5 56 yX5_readLecture, Cond.instanceMethod yX5_readLecture, Cond.selects RX5 yX5_readLecture yX5_readLecture, Cond.code yX5_readLecture cX5_readLecture 2 (some .boolean)]
def wsX5_parse_r2 : List Cond := [Cond.fieldLink RX5 22 "LanternHouse$Reader" "value" "J", Cond.methodLink RX5 77 yX5_take, Cond.instanceMethod yX5_take, Cond.selects RX5 yX5_take yX5_take, Cond.code yX5_take cX5_take 2 (some .boolean), Cond.fieldLink RX5 73 "LanternHouse$Tokens" "values" "[J", Cond.fieldLink RX5 70 "LanternHouse$Tokens" "places" "[I", Cond.fieldLink RX5 26 "LanternHouse$Reader" "valuePlace" "I", Cond.methodLink RX5 60 yX5_fails, Cond.instanceMethod yX5_fails, Cond.selects RX5 yX5_fails yX5_fails, Cond.code yX5_fails cX5_fails 2 (some .boolean), Cond.methodLink RX5 80 yX2_hasName, Cond.instanceMethod yX2_hasName, Cond.selects RX2 yX2_hasName yX2_hasName, Cond.code yX2_hasName cX2_hasName 4 (some .boolean), Cond.fieldLink RX2 9 "LanternHouse$Lectures" "names" "[J", Cond.methodLink RX5 84 yX5_note, Cond.instanceMethod yX5_note, Cond.selects RX5 yX5_note yX5_note, Cond.code yX5_note cX5_note 2 none, Cond.methodLink RX5 88 yX2_begin, Cond.instanceMethod yX2_begin, Cond.selects RX2 yX2_begin yX2_begin]
def wsX5_parse_r3 : List Cond := [Cond.code yX2_begin cX2_begin 3 none, Cond.fieldLink RX2 13 "LanternHouse$Lectures" "cueCounts" "[I", Cond.fieldLink RX2 17 "LanternHouse$Lectures" "hireCounts" "[I", Cond.methodLink RX5 91 yX5_readCues, Cond.instanceMethod yX5_readCues, Cond.selects RX5 yX5_readCues yX5_readCues, Cond.code yX5_readCues cX5_readCues 4 (some .boolean), Cond.fieldLink RX5 101 "LanternHouse$Lectures" "cueCounts" "[I", Cond.methodLink RX5 97 yX5_readCue, Cond.instanceMethod yX5_readCue, Cond.selects RX5 yX5_readCue yX5_readCue, Cond.code yX5_readCue cX5_readCue 3 (some .boolean), Cond.fieldLink RX5 104 "LanternHouse$Lectures" "musts" "[Z", Cond.constantLong RX5 111 (30), Cond.fieldLink RX5 113 "LanternHouse$Lectures" "minutes" "[I", Cond.fieldLink RX5 116 "LanternHouse$Lectures" "fades" "[I", Cond.methodLink RX5 108 yX5_readKinds, Cond.instanceMethod yX5_readKinds, Cond.selects RX5 yX5_readKinds yX5_readKinds, Cond.code yX5_readKinds cX5_readKinds 3 (some .boolean), Cond.fieldLink RX5 119 "LanternHouse$Lectures" "kindCounts" "[I", Cond.constantLong RX5 127 (29), Cond.methodLink RX5 122 yX2_hasKind, Cond.instanceMethod yX2_hasKind]
def wsX5_parse_r4 : List Cond := [Cond.selects RX2 yX2_hasKind yX2_hasKind, Cond.code yX2_hasKind cX2_hasKind 4 (some .boolean), Cond.fieldLink RX2 24 "LanternHouse$Lectures" "kindCounts" "[I", Cond.fieldLink RX2 27 "LanternHouse$Lectures" "kinds" "[I", Cond.methodLink RX5 129 yX2_addKind, Cond.instanceMethod yX2_addKind, Cond.selects RX2 yX2_addKind yX2_addKind, Cond.code yX2_addKind cX2_addKind 3 none, Cond.methodLink RX5 94 yX5_readHires, Cond.instanceMethod yX5_readHires, Cond.selects RX5 yX5_readHires yX5_readHires, Cond.code yX5_readHires cX5_readHires 4 (some .boolean), Cond.fieldLink RX5 133 "LanternHouse$Lectures" "hireStarts" "[I", Cond.fieldLink RX5 136 "LanternHouse$Lectures" "codeSize" "I", Cond.fieldLink RX5 143 "LanternHouse$Lectures" "hireEnds" "[I", Cond.fieldLink RX5 146 "LanternHouse$Lectures" "hireCounts" "[I", Cond.methodLink RX5 139 yX5_readHire, Cond.instanceMethod yX5_readHire, Cond.selects RX5 yX5_readHire yX5_readHire, Cond.code yX5_readHire cX5_readHire 4 (some .boolean), Cond.methodLink RX5 149 yX5_readSum, Cond.instanceMethod yX5_readSum, Cond.selects RX5 yX5_readSum yX5_readSum, Cond.code yX5_readSum cX5_readSum 5 (some .boolean)]
def wsX5_parse_r5 : List Cond := [Cond.fieldLink RX5 15 "LanternHouse$Reader" "waitingCount" "I", Cond.methodLink RX5 158 yX5_hold, Cond.instanceMethod yX5_hold, Cond.selects RX5 yX5_hold yX5_hold, Cond.code yX5_hold cX5_hold 2 none, Cond.fieldLink RX5 11 "LanternHouse$Reader" "waiting" "[I", Cond.methodLink RX5 161 yX10_isVar, Cond.static yX10_isVar, Cond.initialized RX10, Cond.code yX10_isVar cX10_isVar 1 (some .boolean), Cond.methodLink RX5 155 yX2_emit, Cond.instanceMethod yX2_emit, Cond.selects RX2 yX2_emit yX2_emit, Cond.code yX2_emit cX2_emit 2 none, Cond.fieldLink RX2 44 "LanternHouse$Lectures" "code" "[I", Cond.methodLink RX5 164 yX10_isOperator, Cond.static yX10_isOperator, Cond.code yX10_isOperator cX10_isOperator 1 (some .boolean), Cond.methodLink RX5 167 yX5_release, Cond.instanceMethod yX5_release, Cond.selects RX5 yX5_release yX5_release, Cond.code yX5_release cX5_release 3 none, Cond.methodLink RX5 152 yX10_isRelation, Cond.static yX10_isRelation]
def wsX5_parse_r6 : List Cond := [Cond.code yX10_isRelation cX10_isRelation 1 (some .boolean)]
def wsX5_parse : List Cond := .code yX5_parse cX5_parse 4 none :: ((wsX5_parse_r1 ++ (wsX5_parse_r2 ++ (wsX5_parse_r3 ++ (wsX5_parse_r4 ++ (wsX5_parse_r5 ++ wsX5_parse_r6))))) ++ wsX50 ++ wsX100 ++ wsX20)
def wsX6_init : List Cond := .code yX6_init cX6_init 1 none :: ([.methodLink RX6 5 objectInit, .instanceMethod objectInit, .code objectInit ⟨#[0xb1]⟩ 1 none, .arrayClass .int, .fieldLink RX6 13 "LanternHouse$Showing" "begins" "[I", .arrayClass .boolean, .fieldLink RX6 19 "LanternHouse$Showing" "isShown" "[Z", .fieldLink RX6 23 "LanternHouse$Showing" "values" "[I", .fieldLink RX6 26 "LanternHouse$Showing" "shown" "I", .fieldLink RX6 30 "LanternHouse$Showing" "missed" "I", .fieldLink RX6 33 "LanternHouse$Showing" "instead" "I", .fieldLink RX6 36 "LanternHouse$Showing" "minutes" "I", .fieldLink RX6 39 "LanternHouse$Showing" "gas" "I", .fieldLink RX6 42 "LanternHouse$Showing" "worth" "I", .fieldLink RX6 45 "LanternHouse$Showing" "firstDark" "I", .fieldLink RX6 48 "LanternHouse$Showing" "hire" "I", .fieldLink RX6 51 "LanternHouse$Showing" "hireNumber" "I"] ++ wsX60)
def wsX7_init : List Cond := .code yX7_init cX7_init 2 none :: ([.methodLink RX7 3 objectInit, .instanceMethod objectInit, .code objectInit ⟨#[0xb1]⟩ 1 none, .arrayClass .int, .fieldLink RX7 11 "LanternHouse$Shows" "nights" "[I", .fieldLink RX7 15 "LanternHouse$Shows" "halls" "[I", .fieldLink RX7 18 "LanternHouse$Shows" "lectures" "[I", .fieldLink RX7 21 "LanternHouse$Shows" "gas" "[I", .fieldLink RX7 24 "LanternHouse$Shows" "worths" "[I", .fieldLink RX7 27 "LanternHouse$Shows" "order" "[I", .fieldLink RX7 30 "LanternHouse$Shows" "size" "I", .fieldLink RX7 34 "LanternHouse$Shows" "text" "LLanternHouse$Lectures;"] ++ wsX70)
def wsX7_startOver : List Cond := .code yX7_startOver cX7_startOver 2 none :: ([.fieldLink RX7 34 "LanternHouse$Shows" "text" "LLanternHouse$Lectures;", .fieldLink RX7 30 "LanternHouse$Shows" "size" "I"] ++ wsX70)
def wsX7_isTaken : List Cond := .code yX7_isTaken cX7_isTaken 4 (some .boolean) :: ([.fieldLink RX7 30 "LanternHouse$Shows" "size" "I", .fieldLink RX7 11 "LanternHouse$Shows" "nights" "[I", .fieldLink RX7 15 "LanternHouse$Shows" "halls" "[I"] ++ wsX70)
def wsX7_add : List Cond := .code yX7_add cX7_add 6 (some .int) :: ([.fieldLink RX7 30 "LanternHouse$Shows" "size" "I", .fieldLink RX7 34 "LanternHouse$Shows" "text" "LLanternHouse$Lectures;", .fieldLink RX7 42 "LanternHouse$Lectures" "size" "I", .fieldLink RX7 11 "LanternHouse$Shows" "nights" "[I", .fieldLink RX7 15 "LanternHouse$Shows" "halls" "[I", .fieldLink RX7 18 "LanternHouse$Shows" "lectures" "[I", .fieldLink RX7 21 "LanternHouse$Shows" "gas" "[I", .fieldLink RX7 24 "LanternHouse$Shows" "worths" "[I", .methodLink RX7 38 yX7_isTaken, .instanceMethod yX7_isTaken, .selects RX7 yX7_isTaken yX7_isTaken, .initialized RX7, .code yX7_isTaken cX7_isTaken 4 (some .boolean), .methodLink RX7 45 yX7_putInOrder, .instanceMethod yX7_putInOrder, .selects RX7 yX7_putInOrder yX7_putInOrder, .code yX7_putInOrder cX7_putInOrder 3 none, .fieldLink RX7 27 "LanternHouse$Shows" "order" "[I"] ++ wsX70 ++ wsX20)
def wsX7_isShow : List Cond := .code yX7_isShow cX7_isShow 2 (some .boolean) :: ([.fieldLink RX7 30 "LanternHouse$Shows" "size" "I"] ++ wsX70)
def wsX7_all : List Cond := .code yX7_all cX7_all 1 (some .int) :: ([.fieldLink RX7 30 "LanternHouse$Shows" "size" "I"] ++ wsX70)
def wsX8_init : List Cond := .code yX8_init cX8_init 1 none :: ([.methodLink RX8 3 objectInit, .instanceMethod objectInit, .code objectInit ⟨#[0xb1]⟩ 1 none, .arrayClass .int, .fieldLink RX8 11 "LanternHouse$Stock" "kinds" "[I", .fieldLink RX8 15 "LanternHouse$Stock" "platesOfKind" "[I", .fieldLink RX8 18 "LanternHouse$Stock" "size" "I"] ++ wsX80)
def wsX8_add : List Cond := .code yX8_add cX8_add 2 (some .int) :: ([.fieldLink RX8 18 "LanternHouse$Stock" "size" "I", .fieldLink RX8 11 "LanternHouse$Stock" "kinds" "[I", .fieldLink RX8 15 "LanternHouse$Stock" "platesOfKind" "[I"] ++ wsX80)
def wsX9_init : List Cond := .code yX9_init cX9_init 1 none :: ([.methodLink RX9 3 objectInit, .instanceMethod objectInit, .code objectInit ⟨#[0xb1]⟩ 1 none, .arrayClass .byte, .fieldLink RX9 11 "LanternHouse$Tape" "bytes" "[B", .fieldLink RX9 15 "LanternHouse$Tape" "length" "I"] ++ wsX90)
def wsX9_put : List Cond := .code yX9_put cX9_put 3 none :: ([.fieldLink RX9 15 "LanternHouse$Tape" "length" "I", .fieldLink RX9 11 "LanternHouse$Tape" "bytes" "[B"] ++ wsX90)
def wsX9_at : List Cond := .code yX9_at cX9_at 2 (some .int) :: ([.fieldLink RX9 15 "LanternHouse$Tape" "length" "I", .fieldLink RX9 11 "LanternHouse$Tape" "bytes" "[B"] ++ wsX90)
def wsX10_init : List Cond := .code yX10_init cX10_init 1 none :: ([.methodLink RX10 3 objectInit, .instanceMethod objectInit, .code objectInit ⟨#[0xb1]⟩ 1 none, .arrayClass .int, .fieldLink RX10 11 "LanternHouse$Tokens" "sorts" "[I", .fieldLink RX10 15 "LanternHouse$Tokens" "places" "[I", .arrayClass .long, .fieldLink RX10 18 "LanternHouse$Tokens" "values" "[J"] ++ wsX100)
def wsX10_pastBlanks : List Cond := .code yX10_pastBlanks cX10_pastBlanks 3 (some .int) :: ([.fieldLink RX10 37 "LanternHouse$Tape" "length" "I", .methodLink RX10 43 yX9_at, .instanceMethod yX9_at, .selects RX9 yX9_at yX9_at, .initialized RX9, .code yX9_at cX9_at 2 (some .int), .fieldLink RX9 15 "LanternHouse$Tape" "length" "I", .fieldLink RX9 11 "LanternHouse$Tape" "bytes" "[B", .methodLink RX10 47 yX10_isBlank, .static yX10_isBlank, .initialized RX10, .code yX10_isBlank cX10_isBlank 1 (some .boolean)] ++ wsX90)
def wsX10_isLetter : List Cond := .code yX10_isLetter cX10_isLetter 1 (some .boolean) :: ([])
def wsX10_isDigit : List Cond := .code yX10_isDigit cX10_isDigit 1 (some .boolean) :: ([])
def wsX10_endOf : List Cond := .code yX10_endOf cX10_endOf 4 (some .int) :: ([.fieldLink RX10 37 "LanternHouse$Tape" "length" "I", .methodLink RX10 43 yX9_at, .instanceMethod yX9_at, .selects RX9 yX9_at yX9_at, .initialized RX9, .code yX9_at cX9_at 2 (some .int), .fieldLink RX9 15 "LanternHouse$Tape" "length" "I", .fieldLink RX9 11 "LanternHouse$Tape" "bytes" "[B", .methodLink RX10 51 yX10_isLetter, .static yX10_isLetter, .initialized RX10, .code yX10_isLetter cX10_isLetter 1 (some .boolean), .methodLink RX10 54 yX10_isDigit, .static yX10_isDigit, .code yX10_isDigit cX10_isDigit 1 (some .boolean)] ++ wsX90)
def wsX10_sortOf_r1 : List Cond := [Cond.methodLink RX10 43 yX9_at, Cond.instanceMethod yX9_at, Cond.selects RX9 yX9_at yX9_at, Cond.initialized RX9, Cond.code yX9_at cX9_at 2 (some .int), Cond.fieldLink RX9 15 "LanternHouse$Tape" "length" "I", Cond.fieldLink RX9 11 "LanternHouse$Tape" "bytes" "[B", Cond.methodLink RX10 51 yX10_isLetter, Cond.static yX10_isLetter, Cond.initialized RX10, Cond.code yX10_isLetter cX10_isLetter 1 (some .boolean), Cond.methodLink RX10 57 yX10_wordSort, Cond.static yX10_wordSort, Cond.code yX10_wordSort cX10_wordSort 3 (some .int), Cond.methodLink RX10 66 yX9_spells, Cond.instanceMethod yX9_spells, Cond.selects RX9 yX9_spells yX9_spells, Cond.code yX9_spells cX9_spells 5 (some .boolean), Cond.methodLink RX9 19 yJ0_length_8abf5, Cond.instanceMethod yJ0_length_8abf5, Cond.selects RJ0 yJ0_length_8abf5 yJ0_length_8abf5, Cond.initialized RJ0, Cond.code yJ0_length_8abf5 cJ0_length_8abf5 1 (some .int), Cond.fieldLink RJ0 9 "java/lang/String" "value" "[B"]
def wsX10_sortOf_r2 : List Cond := [Cond.methodLink RJ0 335 yJ0_coder_7d493, Cond.instanceMethod yJ0_coder_7d493, Cond.selects RJ0 yJ0_coder_7d493 yJ0_coder_7d493, Cond.code yJ0_coder_7d493 cJ0_coder_7d493 1 (some .byte), Cond.fieldLink RJ0 38 "java/lang/String" "COMPACT_STRINGS" "Z", Cond.fieldLink RJ0 15 "java/lang/String" "coder" "B", Cond.methodLink RX9 24 yX9_at, Cond.methodLink RX9 28 yJ0_charAt_5068e, Cond.instanceMethod yJ0_charAt_5068e, Cond.selects RJ0 yJ0_charAt_5068e yJ0_charAt_5068e, Cond.code yJ0_charAt_5068e cJ0_charAt_5068e 2 (some .char), Cond.methodLink RJ0 492 yJ0_isLatin1_aae02, Cond.instanceMethod yJ0_isLatin1_aae02, Cond.selects RJ0 yJ0_isLatin1_aae02 yJ0_isLatin1_aae02, Cond.code yJ0_isLatin1_aae02 cJ0_isLatin1_aae02 1 (some .boolean), Cond.methodLink RJ0 495 yJ1_charAt_3b067, Cond.static yJ1_charAt_3b067, Cond.initialized RJ1, Cond.code yJ1_charAt_3b067 cJ1_charAt_3b067 2 (some .char), Cond.methodLink RJ1 9 yJ0_checkIndex_df160, Cond.static yJ0_checkIndex_df160, Cond.code yJ0_checkIndex_df160 cJ0_checkIndex_df160 2 none, Cond.fieldLink RJ0 1053 "jdk/internal/util/Preconditions" "SIOOBE_FORMATTER" "Ljava/util/function/BiFunction;", Cond.methodLink RJ0 1059 yJ3_checkIndex_8e157]
def wsX10_sortOf_r3 : List Cond := [Cond.static yJ3_checkIndex_8e157, Cond.initialized RJ3, Cond.code yJ3_checkIndex_8e157 cJ3_checkIndex_8e157 3 (some .int), Cond.methodLink RJ0 498 yJ2_charAt_3b067, Cond.static yJ2_charAt_3b067, Cond.initialized RJ2, Cond.code yJ2_charAt_3b067 cJ2_charAt_3b067 2 (some .char), Cond.methodLink RJ2 67 yJ2_checkIndex_2214a, Cond.static yJ2_checkIndex_2214a, Cond.code yJ2_checkIndex_2214a cJ2_checkIndex_2214a 2 none, Cond.methodLink RJ2 48 yJ2_length_9d52b, Cond.static yJ2_length_9d52b, Cond.code yJ2_length_9d52b cJ2_length_9d52b 1 (some .int), Cond.methodLink RJ2 414 yJ0_checkIndex_df160, Cond.methodLink RJ2 71 yJ2_getChar_3b067, Cond.static yJ2_getChar_3b067, Cond.code yJ2_getChar_3b067 cJ2_getChar_3b067 2 (some .char), Cond.fieldLink RJ2 44 "java/lang/StringUTF16" "$assertionsDisabled" "Z", Cond.fieldLink RJ2 59 "java/lang/StringUTF16" "HI_BYTE_SHIFT" "I", Cond.fieldLink RJ2 63 "java/lang/StringUTF16" "LO_BYTE_SHIFT" "I", Cond.methodLink RX10 54 yX10_isDigit, Cond.static yX10_isDigit, Cond.code yX10_isDigit cX10_isDigit 1 (some .boolean), Cond.methodLink RX10 60 yX10_signSort]
def wsX10_sortOf_r4 : List Cond := [Cond.static yX10_signSort, Cond.code yX10_signSort cX10_signSort 2 (some .int)]
def wsX10_sortOf : List Cond := .code yX10_sortOf cX10_sortOf 4 (some .int) :: ((wsX10_sortOf_r1 ++ (wsX10_sortOf_r2 ++ (wsX10_sortOf_r3 ++ wsX10_sortOf_r4))) ++ wsX90)
def wsX10_valueOf : List Cond := .code yX10_valueOf cX10_valueOf 7 (some .long) :: ([.constantLong RX10 100 (10), .constantLong RX10 102 (32), .methodLink RX10 43 yX9_at, .instanceMethod yX9_at, .selects RX9 yX9_at yX9_at, .initialized RX9, .code yX9_at cX9_at 2 (some .int), .fieldLink RX9 15 "LanternHouse$Tape" "length" "I", .fieldLink RX9 11 "LanternHouse$Tape" "bytes" "[B", .methodLink RX10 54 yX10_isDigit, .static yX10_isDigit, .initialized RX10, .code yX10_isDigit cX10_isDigit 1 (some .boolean), .methodLink RX10 51 yX10_isLetter, .static yX10_isLetter, .code yX10_isLetter cX10_isLetter 1 (some .boolean)] ++ wsX90)
def wsX10_scan_r1 : List Cond := [Cond.fieldLink RX10 15 "LanternHouse$Tokens" "places" "[I", Cond.fieldLink RX10 11 "LanternHouse$Tokens" "sorts" "[I", Cond.fieldLink RX10 18 "LanternHouse$Tokens" "values" "[J", Cond.methodLink RX10 22 yX10_pastBlanks, Cond.static yX10_pastBlanks, Cond.initialized RX10, Cond.code yX10_pastBlanks cX10_pastBlanks 3 (some .int), Cond.fieldLink RX10 37 "LanternHouse$Tape" "length" "I", Cond.methodLink RX10 43 yX9_at, Cond.instanceMethod yX9_at, Cond.selects RX9 yX9_at yX9_at, Cond.initialized RX9, Cond.code yX9_at cX9_at 2 (some .int), Cond.fieldLink RX9 15 "LanternHouse$Tape" "length" "I", Cond.fieldLink RX9 11 "LanternHouse$Tape" "bytes" "[B", Cond.methodLink RX10 47 yX10_isBlank, Cond.static yX10_isBlank, Cond.code yX10_isBlank cX10_isBlank 1 (some .boolean), Cond.methodLink RX10 26 yX10_endOf, Cond.static yX10_endOf, Cond.code yX10_endOf cX10_endOf 4 (some .int), Cond.methodLink RX10 51 yX10_isLetter, Cond.static yX10_isLetter, Cond.code yX10_isLetter cX10_isLetter 1 (some .boolean)]
def wsX10_scan_r2 : List Cond := [Cond.methodLink RX10 54 yX10_isDigit, Cond.static yX10_isDigit, Cond.code yX10_isDigit cX10_isDigit 1 (some .boolean), Cond.methodLink RX10 29 yX10_sortOf, Cond.static yX10_sortOf, Cond.code yX10_sortOf cX10_sortOf 4 (some .int), Cond.methodLink RX10 57 yX10_wordSort, Cond.static yX10_wordSort, Cond.code yX10_wordSort cX10_wordSort 3 (some .int), Cond.methodLink RX10 66 yX9_spells, Cond.instanceMethod yX9_spells, Cond.selects RX9 yX9_spells yX9_spells, Cond.code yX9_spells cX9_spells 5 (some .boolean), Cond.methodLink RX9 19 yJ0_length_8abf5, Cond.instanceMethod yJ0_length_8abf5, Cond.selects RJ0 yJ0_length_8abf5 yJ0_length_8abf5, Cond.initialized RJ0, Cond.code yJ0_length_8abf5 cJ0_length_8abf5 1 (some .int), Cond.fieldLink RJ0 9 "java/lang/String" "value" "[B", Cond.methodLink RJ0 335 yJ0_coder_7d493, Cond.instanceMethod yJ0_coder_7d493, Cond.selects RJ0 yJ0_coder_7d493 yJ0_coder_7d493, Cond.code yJ0_coder_7d493 cJ0_coder_7d493 1 (some .byte), Cond.fieldLink RJ0 38 "java/lang/String" "COMPACT_STRINGS" "Z"]
def wsX10_scan_r3 : List Cond := [Cond.fieldLink RJ0 15 "java/lang/String" "coder" "B", Cond.methodLink RX9 24 yX9_at, Cond.methodLink RX9 28 yJ0_charAt_5068e, Cond.instanceMethod yJ0_charAt_5068e, Cond.selects RJ0 yJ0_charAt_5068e yJ0_charAt_5068e, Cond.code yJ0_charAt_5068e cJ0_charAt_5068e 2 (some .char), Cond.methodLink RJ0 492 yJ0_isLatin1_aae02, Cond.instanceMethod yJ0_isLatin1_aae02, Cond.selects RJ0 yJ0_isLatin1_aae02 yJ0_isLatin1_aae02, Cond.code yJ0_isLatin1_aae02 cJ0_isLatin1_aae02 1 (some .boolean), Cond.methodLink RJ0 495 yJ1_charAt_3b067, Cond.static yJ1_charAt_3b067, Cond.initialized RJ1, Cond.code yJ1_charAt_3b067 cJ1_charAt_3b067 2 (some .char), Cond.methodLink RJ1 9 yJ0_checkIndex_df160, Cond.static yJ0_checkIndex_df160, Cond.code yJ0_checkIndex_df160 cJ0_checkIndex_df160 2 none, Cond.fieldLink RJ0 1053 "jdk/internal/util/Preconditions" "SIOOBE_FORMATTER" "Ljava/util/function/BiFunction;", Cond.methodLink RJ0 1059 yJ3_checkIndex_8e157, Cond.static yJ3_checkIndex_8e157, Cond.initialized RJ3, Cond.code yJ3_checkIndex_8e157 cJ3_checkIndex_8e157 3 (some .int), Cond.methodLink RJ0 498 yJ2_charAt_3b067, Cond.static yJ2_charAt_3b067]
def wsX10_scan_r4 : List Cond := [Cond.initialized RJ2, Cond.code yJ2_charAt_3b067 cJ2_charAt_3b067 2 (some .char), Cond.methodLink RJ2 67 yJ2_checkIndex_2214a, Cond.static yJ2_checkIndex_2214a, Cond.code yJ2_checkIndex_2214a cJ2_checkIndex_2214a 2 none, Cond.methodLink RJ2 48 yJ2_length_9d52b, Cond.static yJ2_length_9d52b, Cond.code yJ2_length_9d52b cJ2_length_9d52b 1 (some .int), Cond.methodLink RJ2 414 yJ0_checkIndex_df160, Cond.methodLink RJ2 71 yJ2_getChar_3b067, Cond.static yJ2_getChar_3b067, Cond.code yJ2_getChar_3b067 cJ2_getChar_3b067 2 (some .char), Cond.fieldLink RJ2 44 "java/lang/StringUTF16" "$assertionsDisabled" "Z", Cond.fieldLink RJ2 59 "java/lang/StringUTF16" "HI_BYTE_SHIFT" "I", Cond.fieldLink RJ2 63 "java/lang/StringUTF16" "LO_BYTE_SHIFT" "I", Cond.methodLink RX10 60 yX10_signSort, Cond.static yX10_signSort, Cond.code yX10_signSort cX10_signSort 2 (some .int), Cond.methodLink RX10 33 yX10_valueOf, Cond.static yX10_valueOf, Cond.code yX10_valueOf cX10_valueOf 7 (some .long), Cond.constantLong RX10 100 (10), Cond.constantLong RX10 102 (32)]
def wsX10_scan : List Cond := .code yX10_scan cX10_scan 5 none :: ((wsX10_scan_r1 ++ (wsX10_scan_r2 ++ (wsX10_scan_r3 ++ wsX10_scan_r4))) ++ wsX100 ++ wsX90)
def wsX11_init_r1 : List Cond := [Cond.methodLink RX11 1 objectInit, Cond.instanceMethod objectInit, Cond.code objectInit ⟨#[0xb1]⟩ 1 none, Cond.classLink RX11 7 RX9, Cond.instantiable RX9 2, Cond.initialized RX9, Cond.fieldLink RX11 10 "LanternHouse" "tape" "LLanternHouse$Tape;", Cond.classLink RX11 16 RX10, Cond.instantiable RX10 3, Cond.initialized RX10, Cond.fieldLink RX11 19 "LanternHouse" "tokens" "LLanternHouse$Tokens;", Cond.classLink RX11 23 RX5, Cond.instantiable RX5 11, Cond.initialized RX5, Cond.fieldLink RX11 28 "LanternHouse" "reader" "LLanternHouse$Reader;", Cond.classLink RX11 32 RX4, Cond.instantiable RX4 8, Cond.initialized RX4, Cond.fieldLink RX11 35 "LanternHouse" "rails" "LLanternHouse$Rails;", Cond.classLink RX11 39 RX8, Cond.instantiable RX8 3, Cond.initialized RX8, Cond.fieldLink RX11 42 "LanternHouse" "stock" "LLanternHouse$Stock;", Cond.classLink RX11 46 RX0]
def wsX11_init_r2 : List Cond := [Cond.instantiable RX0 5, Cond.initialized RX0, Cond.fieldLink RX11 49 "LanternHouse" "facts" "LLanternHouse$Facts;", Cond.classLink RX11 53 RX7, Cond.instantiable RX7 8, Cond.initialized RX7, Cond.classLink RX11 55 RX2, Cond.instantiable RX2 13, Cond.initialized RX2, Cond.fieldLink RX11 61 "LanternHouse" "shows" "LLanternHouse$Shows;", Cond.classLink RX11 65 RX1, Cond.instantiable RX1 8, Cond.initialized RX1, Cond.fieldLink RX11 70 "LanternHouse" "keeper" "LLanternHouse$Keeper;", Cond.classLink RX11 74 RX6, Cond.instantiable RX6 12, Cond.initialized RX6, Cond.fieldLink RX11 77 "LanternHouse" "lastShowing" "LLanternHouse$Showing;", Cond.fieldLink RX11 81 "LanternHouse" "draft" "LLanternHouse$Lectures;", Cond.classLink RX11 85 RX3, Cond.instantiable RX3 8, Cond.initialized RX3, Cond.fieldLink RX11 88 "LanternHouse" "made" "LLanternHouse$Plan;", Cond.fieldLink RX11 92 "LanternHouse" "trial" "LLanternHouse$Plan;"]
def wsX11_init_r3 : List Cond := [Cond.fieldLink RX11 95 "LanternHouse" "isMade" "Z", Cond.methodLink RX11 9 yX9_init, Cond.instanceMethod yX9_init, Cond.code yX9_init cX9_init 1 none, Cond.methodLink RX9 3 objectInit, Cond.arrayClass .byte, Cond.fieldLink RX9 11 "LanternHouse$Tape" "bytes" "[B", Cond.fieldLink RX9 15 "LanternHouse$Tape" "length" "I", Cond.methodLink RX11 18 yX10_init, Cond.instanceMethod yX10_init, Cond.code yX10_init cX10_init 1 none, Cond.methodLink RX10 3 objectInit, Cond.arrayClass .int, Cond.fieldLink RX10 11 "LanternHouse$Tokens" "sorts" "[I", Cond.fieldLink RX10 15 "LanternHouse$Tokens" "places" "[I", Cond.arrayClass .long, Cond.fieldLink RX10 18 "LanternHouse$Tokens" "values" "[J", Cond.methodLink RX11 25 yX5_init, Cond.instanceMethod yX5_init, Cond.code yX5_init cX5_init 2 none, Cond.methodLink RX5 5 objectInit, Cond.fieldLink RX5 11 "LanternHouse$Reader" "waiting" "[I", Cond.fieldLink RX5 15 "LanternHouse$Reader" "waitingCount" "I", Cond.fieldLink RX5 19 "LanternHouse$Reader" "at" "I"]
def wsX11_init_r4 : List Cond := [Cond.fieldLink RX5 22 "LanternHouse$Reader" "value" "J", Cond.fieldLink RX5 26 "LanternHouse$Reader" "valuePlace" "I", Cond.fieldLink RX5 29 "LanternHouse$Reader" "fault" "I", Cond.fieldLink RX5 32 "LanternHouse$Reader" "faultPlace" "I", Cond.fieldLink RX5 35 "LanternHouse$Reader" "noted" "I", Cond.fieldLink RX5 38 "LanternHouse$Reader" "notedPlace" "I", Cond.fieldLink RX5 41 "LanternHouse$Reader" "tokens" "LLanternHouse$Tokens;", Cond.methodLink RX11 34 yX4_init, Cond.instanceMethod yX4_init, Cond.code yX4_init cX4_init 1 none, Cond.methodLink RX4 3 objectInit, Cond.fieldLink RX4 11 "LanternHouse$Rails" "froms" "[I", Cond.fieldLink RX4 15 "LanternHouse$Rails" "tos" "[I", Cond.fieldLink RX4 18 "LanternHouse$Rails" "hours" "[I", Cond.fieldLink RX4 21 "LanternHouse$Rails" "lengths" "[I", Cond.fieldLink RX4 24 "LanternHouse$Rails" "idleDays" "[J", Cond.fieldLink RX4 28 "LanternHouse$Rails" "reached" "[I", Cond.fieldLink RX4 31 "LanternHouse$Rails" "halls" "I", Cond.fieldLink RX4 35 "LanternHouse$Rails" "trains" "I", Cond.methodLink RX11 41 yX8_init, Cond.instanceMethod yX8_init, Cond.code yX8_init cX8_init 1 none, Cond.methodLink RX8 3 objectInit, Cond.fieldLink RX8 11 "LanternHouse$Stock" "kinds" "[I"]
def wsX11_init_r5 : List Cond := [Cond.fieldLink RX8 15 "LanternHouse$Stock" "platesOfKind" "[I", Cond.fieldLink RX8 18 "LanternHouse$Stock" "size" "I", Cond.methodLink RX11 48 yX0_init, Cond.instanceMethod yX0_init, Cond.code yX0_init cX0_init 1 none, Cond.methodLink RX0 3 objectInit, Cond.fieldLink RX0 11 "LanternHouse$Facts" "sorts" "[I", Cond.fieldLink RX0 15 "LanternHouse$Facts" "subjects" "[I", Cond.fieldLink RX0 18 "LanternHouse$Facts" "times" "[I", Cond.fieldLink RX0 23 "LanternHouse$Facts" "latest" "[I", Cond.fieldLink RX0 26 "LanternHouse$Facts" "size" "I", Cond.methodLink RX11 57 yX2_init, Cond.instanceMethod yX2_init, Cond.code yX2_init cX2_init 1 none, Cond.methodLink RX2 1 objectInit, Cond.fieldLink RX2 9 "LanternHouse$Lectures" "names" "[J", Cond.fieldLink RX2 13 "LanternHouse$Lectures" "cueCounts" "[I", Cond.fieldLink RX2 17 "LanternHouse$Lectures" "hireCounts" "[I", Cond.arrayClass .boolean, Cond.fieldLink RX2 20 "LanternHouse$Lectures" "musts" "[Z", Cond.fieldLink RX2 24 "LanternHouse$Lectures" "kindCounts" "[I", Cond.fieldLink RX2 27 "LanternHouse$Lectures" "kinds" "[I", Cond.fieldLink RX2 30 "LanternHouse$Lectures" "minutes" "[I", Cond.fieldLink RX2 33 "LanternHouse$Lectures" "fades" "[I"]
def wsX11_init_r6 : List Cond := [Cond.fieldLink RX2 36 "LanternHouse$Lectures" "hireStarts" "[I", Cond.fieldLink RX2 39 "LanternHouse$Lectures" "hireEnds" "[I", Cond.fieldLink RX2 44 "LanternHouse$Lectures" "code" "[I", Cond.fieldLink RX2 47 "LanternHouse$Lectures" "codeSize" "I", Cond.fieldLink RX2 51 "LanternHouse$Lectures" "size" "I", Cond.methodLink RX11 58 yX7_init, Cond.instanceMethod yX7_init, Cond.code yX7_init cX7_init 2 none, Cond.methodLink RX7 3 objectInit, Cond.fieldLink RX7 11 "LanternHouse$Shows" "nights" "[I", Cond.fieldLink RX7 15 "LanternHouse$Shows" "halls" "[I", Cond.fieldLink RX7 18 "LanternHouse$Shows" "lectures" "[I", Cond.fieldLink RX7 21 "LanternHouse$Shows" "gas" "[I", Cond.fieldLink RX7 24 "LanternHouse$Shows" "worths" "[I", Cond.fieldLink RX7 27 "LanternHouse$Shows" "order" "[I", Cond.fieldLink RX7 30 "LanternHouse$Shows" "size" "I", Cond.fieldLink RX7 34 "LanternHouse$Shows" "text" "LLanternHouse$Lectures;", Cond.methodLink RX11 67 yX1_init, Cond.instanceMethod yX1_init, Cond.code yX1_init cX1_init 5 none, Cond.methodLink RX1 5 objectInit, Cond.classLink RX1 13 "[[I", Cond.fieldLink RX1 15 "LanternHouse$Keeper" "arrivals" "[[I", Cond.fieldLink RX1 20 "LanternHouse$Keeper" "broken" "[I"]
def wsX11_init_r7 : List Cond := [Cond.fieldLink RX1 26 "LanternHouse$Keeper" "freeAt" "[I", Cond.fieldLink RX1 29 "LanternHouse$Keeper" "cleaningHours" "I", Cond.fieldLink RX1 33 "LanternHouse$Keeper" "shows" "LLanternHouse$Shows;", Cond.fieldLink RX1 37 "LanternHouse$Keeper" "stock" "LLanternHouse$Stock;", Cond.fieldLink RX1 41 "LanternHouse$Keeper" "facts" "LLanternHouse$Facts;", Cond.fieldLink RX1 45 "LanternHouse$Keeper" "rails" "LLanternHouse$Rails;", Cond.methodLink RX11 76 yX6_init, Cond.instanceMethod yX6_init, Cond.code yX6_init cX6_init 1 none, Cond.methodLink RX6 5 objectInit, Cond.fieldLink RX6 13 "LanternHouse$Showing" "begins" "[I", Cond.fieldLink RX6 19 "LanternHouse$Showing" "isShown" "[Z", Cond.fieldLink RX6 23 "LanternHouse$Showing" "values" "[I", Cond.fieldLink RX6 26 "LanternHouse$Showing" "shown" "I", Cond.fieldLink RX6 30 "LanternHouse$Showing" "missed" "I", Cond.fieldLink RX6 33 "LanternHouse$Showing" "instead" "I", Cond.fieldLink RX6 36 "LanternHouse$Showing" "minutes" "I", Cond.fieldLink RX6 39 "LanternHouse$Showing" "gas" "I", Cond.fieldLink RX6 42 "LanternHouse$Showing" "worth" "I", Cond.fieldLink RX6 45 "LanternHouse$Showing" "firstDark" "I", Cond.fieldLink RX6 48 "LanternHouse$Showing" "hire" "I", Cond.fieldLink RX6 51 "LanternHouse$Showing" "hireNumber" "I", Cond.methodLink RX11 87 yX3_init, Cond.instanceMethod yX3_init]
def wsX11_init_r8 : List Cond := [Cond.code yX3_init cX3_init 1 none, Cond.methodLink RX3 3 objectInit, Cond.fieldLink RX3 13 "LanternHouse$Plan" "plates" "[I", Cond.fieldLink RX3 19 "LanternHouse$Plan" "wayEnds" "[I", Cond.fieldLink RX3 22 "LanternHouse$Plan" "standIns" "[Z", Cond.fieldLink RX3 26 "LanternHouse$Plan" "set" "I", Cond.fieldLink RX3 30 "LanternHouse$Plan" "worth" "I", Cond.fieldLink RX3 33 "LanternHouse$Plan" "changes" "I", Cond.fieldLink RX3 36 "LanternHouse$Plan" "missed" "I", Cond.fieldLink RX3 39 "LanternHouse$Plan" "instead" "I"]
def wsX11_init : List Cond := .code yX11_init cX11_init 1 none :: ((wsX11_init_r1 ++ (wsX11_init_r2 ++ (wsX11_init_r3 ++ (wsX11_init_r4 ++ (wsX11_init_r5 ++ (wsX11_init_r6 ++ (wsX11_init_r7 ++ wsX11_init_r8))))))) ++ wsX90 ++ wsX110 ++ wsX100 ++ wsX50 ++ wsX40 ++ wsX80 ++ wsX00 ++ wsX70 ++ wsX20 ++ wsX10 ++ wsX60 ++ wsX30)
def wsX11_feed : List Cond := .code yX11_feed cX11_feed 6 (some .int) :: ([.fieldLink RX11 10 "LanternHouse" "tape" "LLanternHouse$Tape;", .fieldLink RX11 99 "LanternHouse$Tape" "length" "I", .methodLink RX11 103 yX9_put, .instanceMethod yX9_put, .selects RX9 yX9_put yX9_put, .initialized RX9, .code yX9_put cX9_put 3 none, .fieldLink RX9 15 "LanternHouse$Tape" "length" "I", .fieldLink RX9 11 "LanternHouse$Tape" "bytes" "[B"] ++ wsX110 ++ wsX90)
def wsX11_back : List Cond := .code yX11_back cX11_back 2 (some .int) :: ([.fieldLink RX11 10 "LanternHouse" "tape" "LLanternHouse$Tape;", .fieldLink RX11 99 "LanternHouse$Tape" "length" "I"] ++ wsX110 ++ wsX90)
def wsX11_read_r1 : List Cond := [Cond.fieldLink RX11 19 "LanternHouse" "tokens" "LLanternHouse$Tokens;", Cond.fieldLink RX11 10 "LanternHouse" "tape" "LLanternHouse$Tape;", Cond.fieldLink RX11 99 "LanternHouse$Tape" "length" "I", Cond.fieldLink RX11 28 "LanternHouse" "reader" "LLanternHouse$Reader;", Cond.fieldLink RX11 81 "LanternHouse" "draft" "LLanternHouse$Lectures;", Cond.fieldLink RX11 114 "LanternHouse$Reader" "fault" "I", Cond.fieldLink RX11 61 "LanternHouse" "shows" "LLanternHouse$Shows;", Cond.fieldLink RX11 117 "LanternHouse$Shows" "text" "LLanternHouse$Lectures;", Cond.fieldLink RX11 95 "LanternHouse" "isMade" "Z", Cond.methodLink RX11 107 yX10_scan, Cond.instanceMethod yX10_scan, Cond.selects RX10 yX10_scan yX10_scan, Cond.initialized RX10, Cond.code yX10_scan cX10_scan 5 none, Cond.fieldLink RX10 15 "LanternHouse$Tokens" "places" "[I", Cond.fieldLink RX10 11 "LanternHouse$Tokens" "sorts" "[I", Cond.fieldLink RX10 18 "LanternHouse$Tokens" "values" "[J", Cond.methodLink RX10 22 yX10_pastBlanks, Cond.static yX10_pastBlanks, Cond.code yX10_pastBlanks cX10_pastBlanks 3 (some .int), Cond.fieldLink RX10 37 "LanternHouse$Tape" "length" "I", Cond.methodLink RX10 43 yX9_at, Cond.instanceMethod yX9_at, Cond.selects RX9 yX9_at yX9_at]
def wsX11_read_r2 : List Cond := [Cond.initialized RX9, Cond.code yX9_at cX9_at 2 (some .int), Cond.fieldLink RX9 15 "LanternHouse$Tape" "length" "I", Cond.fieldLink RX9 11 "LanternHouse$Tape" "bytes" "[B", Cond.methodLink RX10 47 yX10_isBlank, Cond.static yX10_isBlank, Cond.code yX10_isBlank cX10_isBlank 1 (some .boolean), Cond.methodLink RX10 26 yX10_endOf, Cond.static yX10_endOf, Cond.code yX10_endOf cX10_endOf 4 (some .int), Cond.methodLink RX10 51 yX10_isLetter, Cond.static yX10_isLetter, Cond.code yX10_isLetter cX10_isLetter 1 (some .boolean), Cond.methodLink RX10 54 yX10_isDigit, Cond.static yX10_isDigit, Cond.code yX10_isDigit cX10_isDigit 1 (some .boolean), Cond.methodLink RX10 29 yX10_sortOf, Cond.static yX10_sortOf, Cond.code yX10_sortOf cX10_sortOf 4 (some .int), Cond.methodLink RX10 57 yX10_wordSort, Cond.static yX10_wordSort, Cond.code yX10_wordSort cX10_wordSort 3 (some .int), Cond.methodLink RX10 66 yX9_spells, Cond.instanceMethod yX9_spells]
def wsX11_read_r3 : List Cond := [Cond.selects RX9 yX9_spells yX9_spells, Cond.code yX9_spells cX9_spells 5 (some .boolean), Cond.methodLink RX9 19 yJ0_length_8abf5, Cond.instanceMethod yJ0_length_8abf5, Cond.selects RJ0 yJ0_length_8abf5 yJ0_length_8abf5, Cond.initialized RJ0, Cond.code yJ0_length_8abf5 cJ0_length_8abf5 1 (some .int), Cond.fieldLink RJ0 9 "java/lang/String" "value" "[B", Cond.methodLink RJ0 335 yJ0_coder_7d493, Cond.instanceMethod yJ0_coder_7d493, Cond.selects RJ0 yJ0_coder_7d493 yJ0_coder_7d493, Cond.code yJ0_coder_7d493 cJ0_coder_7d493 1 (some .byte), Cond.fieldLink RJ0 38 "java/lang/String" "COMPACT_STRINGS" "Z", Cond.fieldLink RJ0 15 "java/lang/String" "coder" "B", Cond.methodLink RX9 24 yX9_at, Cond.methodLink RX9 28 yJ0_charAt_5068e, Cond.instanceMethod yJ0_charAt_5068e, Cond.selects RJ0 yJ0_charAt_5068e yJ0_charAt_5068e, Cond.code yJ0_charAt_5068e cJ0_charAt_5068e 2 (some .char), Cond.methodLink RJ0 492 yJ0_isLatin1_aae02, Cond.instanceMethod yJ0_isLatin1_aae02, Cond.selects RJ0 yJ0_isLatin1_aae02 yJ0_isLatin1_aae02, Cond.code yJ0_isLatin1_aae02 cJ0_isLatin1_aae02 1 (some .boolean), Cond.methodLink RJ0 495 yJ1_charAt_3b067]
def wsX11_read_r4 : List Cond := [Cond.static yJ1_charAt_3b067, Cond.initialized RJ1, Cond.code yJ1_charAt_3b067 cJ1_charAt_3b067 2 (some .char), Cond.methodLink RJ1 9 yJ0_checkIndex_df160, Cond.static yJ0_checkIndex_df160, Cond.code yJ0_checkIndex_df160 cJ0_checkIndex_df160 2 none, Cond.fieldLink RJ0 1053 "jdk/internal/util/Preconditions" "SIOOBE_FORMATTER" "Ljava/util/function/BiFunction;", Cond.methodLink RJ0 1059 yJ3_checkIndex_8e157, Cond.static yJ3_checkIndex_8e157, Cond.initialized RJ3, Cond.code yJ3_checkIndex_8e157 cJ3_checkIndex_8e157 3 (some .int), Cond.methodLink RJ0 498 yJ2_charAt_3b067, Cond.static yJ2_charAt_3b067, Cond.initialized RJ2, Cond.code yJ2_charAt_3b067 cJ2_charAt_3b067 2 (some .char), Cond.methodLink RJ2 67 yJ2_checkIndex_2214a, Cond.static yJ2_checkIndex_2214a, Cond.code yJ2_checkIndex_2214a cJ2_checkIndex_2214a 2 none, Cond.methodLink RJ2 48 yJ2_length_9d52b, Cond.static yJ2_length_9d52b, Cond.code yJ2_length_9d52b cJ2_length_9d52b 1 (some .int), Cond.methodLink RJ2 414 yJ0_checkIndex_df160, Cond.methodLink RJ2 71 yJ2_getChar_3b067, Cond.static yJ2_getChar_3b067]
def wsX11_read_r5 : List Cond := [Cond.code yJ2_getChar_3b067 cJ2_getChar_3b067 2 (some .char), Cond.fieldLink RJ2 44 "java/lang/StringUTF16" "$assertionsDisabled" "Z", Cond.fieldLink RJ2 59 "java/lang/StringUTF16" "HI_BYTE_SHIFT" "I", Cond.fieldLink RJ2 63 "java/lang/StringUTF16" "LO_BYTE_SHIFT" "I", Cond.methodLink RX10 60 yX10_signSort, Cond.static yX10_signSort, Cond.code yX10_signSort cX10_signSort 2 (some .int), Cond.methodLink RX10 33 yX10_valueOf, Cond.static yX10_valueOf, Cond.code yX10_valueOf cX10_valueOf 7 (some .long), Cond.constantLong RX10 100 (10), Cond.constantLong RX10 102 (32), Cond.methodLink RX11 111 yX5_parse, Cond.instanceMethod yX5_parse, Cond.selects RX5 yX5_parse yX5_parse, Cond.initialized RX5, Cond.code yX5_parse cX5_parse 4 none, Cond.fieldLink RX5 41 "LanternHouse$Reader" "tokens" "LLanternHouse$Tokens;", Cond.fieldLink RX5 51 "LanternHouse$Tokens" "sorts" "[I", Cond.fieldLink RX5 19 "LanternHouse$Reader" "at" "I", Cond.fieldLink RX5 35 "LanternHouse$Reader" "noted" "I", Cond.fieldLink RX5 29 "LanternHouse$Reader" "fault" "I", Cond.fieldLink RX5 38 "LanternHouse$Reader" "notedPlace" "I", Cond.fieldLink RX5 32 "LanternHouse$Reader" "faultPlace" "I"]
def wsX11_read_r6 : List Cond := [Cond.methodLink RX5 45 yX5_begin, Cond.instanceMethod yX5_begin, Cond.selects RX5 yX5_begin yX5_begin, Cond.code yX5_begin cX5_begin 2 none, Cond.fieldLink RX5 63 "LanternHouse$Reader" "text" "LLanternHouse$Lectures;", Cond.methodLink RX5 67 yX2_clear, Cond.instanceMethod yX2_clear, Cond.selects RX2 yX2_clear yX2_clear, Cond.initialized RX2, Cond.code yX2_clear cX2_clear 1 none, Cond.fieldLink RX2 51 "LanternHouse$Lectures" "size" "I", Cond.fieldLink RX2 47 "LanternHouse$Lectures" "codeSize" "I", Cond.methodLink RX5 56 yX5_readLecture, Cond.instanceMethod yX5_readLecture, Cond.selects RX5 yX5_readLecture yX5_readLecture, Cond.code yX5_readLecture cX5_readLecture 2 (some .boolean), Cond.fieldLink RX5 22 "LanternHouse$Reader" "value" "J", Cond.methodLink RX5 77 yX5_take, Cond.instanceMethod yX5_take, Cond.selects RX5 yX5_take yX5_take, Cond.code yX5_take cX5_take 2 (some .boolean), Cond.fieldLink RX5 73 "LanternHouse$Tokens" "values" "[J", Cond.fieldLink RX5 70 "LanternHouse$Tokens" "places" "[I", Cond.fieldLink RX5 26 "LanternHouse$Reader" "valuePlace" "I"]
def wsX11_read_r7 : List Cond := [Cond.methodLink RX5 60 yX5_fails, Cond.instanceMethod yX5_fails, Cond.selects RX5 yX5_fails yX5_fails, Cond.code yX5_fails cX5_fails 2 (some .boolean), Cond.methodLink RX5 80 yX2_hasName, Cond.instanceMethod yX2_hasName, Cond.selects RX2 yX2_hasName yX2_hasName, Cond.code yX2_hasName cX2_hasName 4 (some .boolean), Cond.fieldLink RX2 9 "LanternHouse$Lectures" "names" "[J", Cond.methodLink RX5 84 yX5_note, Cond.instanceMethod yX5_note, Cond.selects RX5 yX5_note yX5_note, Cond.code yX5_note cX5_note 2 none, Cond.methodLink RX5 88 yX2_begin, Cond.instanceMethod yX2_begin, Cond.selects RX2 yX2_begin yX2_begin, Cond.code yX2_begin cX2_begin 3 none, Cond.fieldLink RX2 13 "LanternHouse$Lectures" "cueCounts" "[I", Cond.fieldLink RX2 17 "LanternHouse$Lectures" "hireCounts" "[I", Cond.methodLink RX5 91 yX5_readCues, Cond.instanceMethod yX5_readCues, Cond.selects RX5 yX5_readCues yX5_readCues, Cond.code yX5_readCues cX5_readCues 4 (some .boolean), Cond.fieldLink RX5 101 "LanternHouse$Lectures" "cueCounts" "[I"]
def wsX11_read_r8 : List Cond := [Cond.methodLink RX5 97 yX5_readCue, Cond.instanceMethod yX5_readCue, Cond.selects RX5 yX5_readCue yX5_readCue, Cond.code yX5_readCue cX5_readCue 3 (some .boolean), Cond.fieldLink RX5 104 "LanternHouse$Lectures" "musts" "[Z", Cond.constantLong RX5 111 (30), Cond.fieldLink RX5 113 "LanternHouse$Lectures" "minutes" "[I", Cond.fieldLink RX5 116 "LanternHouse$Lectures" "fades" "[I", Cond.methodLink RX5 108 yX5_readKinds, Cond.instanceMethod yX5_readKinds, Cond.selects RX5 yX5_readKinds yX5_readKinds, Cond.code yX5_readKinds cX5_readKinds 3 (some .boolean), Cond.fieldLink RX5 119 "LanternHouse$Lectures" "kindCounts" "[I", Cond.constantLong RX5 127 (29), Cond.methodLink RX5 122 yX2_hasKind, Cond.instanceMethod yX2_hasKind, Cond.selects RX2 yX2_hasKind yX2_hasKind, Cond.code yX2_hasKind cX2_hasKind 4 (some .boolean), Cond.fieldLink RX2 24 "LanternHouse$Lectures" "kindCounts" "[I", Cond.fieldLink RX2 27 "LanternHouse$Lectures" "kinds" "[I", Cond.methodLink RX5 129 yX2_addKind, Cond.instanceMethod yX2_addKind, Cond.selects RX2 yX2_addKind yX2_addKind, Cond.code yX2_addKind cX2_addKind 3 none]
def wsX11_read_r9 : List Cond := [Cond.methodLink RX5 94 yX5_readHires, Cond.instanceMethod yX5_readHires, Cond.selects RX5 yX5_readHires yX5_readHires, Cond.code yX5_readHires cX5_readHires 4 (some .boolean), Cond.fieldLink RX5 133 "LanternHouse$Lectures" "hireStarts" "[I", Cond.fieldLink RX5 136 "LanternHouse$Lectures" "codeSize" "I", Cond.fieldLink RX5 143 "LanternHouse$Lectures" "hireEnds" "[I", Cond.fieldLink RX5 146 "LanternHouse$Lectures" "hireCounts" "[I", Cond.methodLink RX5 139 yX5_readHire, Cond.instanceMethod yX5_readHire, Cond.selects RX5 yX5_readHire yX5_readHire, Cond.code yX5_readHire cX5_readHire 4 (some .boolean), Cond.methodLink RX5 149 yX5_readSum, Cond.instanceMethod yX5_readSum, Cond.selects RX5 yX5_readSum yX5_readSum, Cond.code yX5_readSum cX5_readSum 5 (some .boolean), Cond.fieldLink RX5 15 "LanternHouse$Reader" "waitingCount" "I", Cond.methodLink RX5 158 yX5_hold, Cond.instanceMethod yX5_hold, Cond.selects RX5 yX5_hold yX5_hold, Cond.code yX5_hold cX5_hold 2 none, Cond.fieldLink RX5 11 "LanternHouse$Reader" "waiting" "[I", Cond.methodLink RX5 161 yX10_isVar, Cond.static yX10_isVar]
def wsX11_read_r10 : List Cond := [Cond.code yX10_isVar cX10_isVar 1 (some .boolean), Cond.methodLink RX5 155 yX2_emit, Cond.instanceMethod yX2_emit, Cond.selects RX2 yX2_emit yX2_emit, Cond.code yX2_emit cX2_emit 2 none, Cond.fieldLink RX2 44 "LanternHouse$Lectures" "code" "[I", Cond.methodLink RX5 164 yX10_isOperator, Cond.static yX10_isOperator, Cond.code yX10_isOperator cX10_isOperator 1 (some .boolean), Cond.methodLink RX5 167 yX5_release, Cond.instanceMethod yX5_release, Cond.selects RX5 yX5_release yX5_release, Cond.code yX5_release cX5_release 3 none, Cond.methodLink RX5 152 yX10_isRelation, Cond.static yX10_isRelation, Cond.code yX10_isRelation cX10_isRelation 1 (some .boolean), Cond.methodLink RX11 120 yX7_startOver, Cond.instanceMethod yX7_startOver, Cond.selects RX7 yX7_startOver yX7_startOver, Cond.initialized RX7, Cond.code yX7_startOver cX7_startOver 2 none, Cond.fieldLink RX7 34 "LanternHouse$Shows" "text" "LLanternHouse$Lectures;", Cond.fieldLink RX7 30 "LanternHouse$Shows" "size" "I"]
def wsX11_read : List Cond := .code yX11_read cX11_read 2 (some .int) :: ((wsX11_read_r1 ++ (wsX11_read_r2 ++ (wsX11_read_r3 ++ (wsX11_read_r4 ++ (wsX11_read_r5 ++ (wsX11_read_r6 ++ (wsX11_read_r7 ++ (wsX11_read_r8 ++ (wsX11_read_r9 ++ wsX11_read_r10))))))))) ++ wsX110 ++ wsX90 ++ wsX50 ++ wsX70 ++ wsX100 ++ wsX20)
def wsX11_place : List Cond := .code yX11_place cX11_place 1 (some .int) :: ([.fieldLink RX11 28 "LanternHouse" "reader" "LLanternHouse$Reader;", .fieldLink RX11 123 "LanternHouse$Reader" "faultPlace" "I"] ++ wsX110 ++ wsX50)
def wsX11_hall : List Cond := .code yX11_hall cX11_hall 1 (some .int) :: ([.fieldLink RX11 35 "LanternHouse" "rails" "LLanternHouse$Rails;", .methodLink RX11 126 yX4_addHall, .instanceMethod yX4_addHall, .selects RX4 yX4_addHall yX4_addHall, .initialized RX4, .code yX4_addHall cX4_addHall 1 (some .int), .fieldLink RX4 31 "LanternHouse$Rails" "halls" "I"] ++ wsX110 ++ wsX40)
def wsX11_train : List Cond := .code yX11_train cX11_train 5 (some .int) :: ([.fieldLink RX11 35 "LanternHouse" "rails" "LLanternHouse$Rails;", .methodLink RX11 130 yX4_addTrain, .instanceMethod yX4_addTrain, .selects RX4 yX4_addTrain yX4_addTrain, .initialized RX4, .code yX4_addTrain cX4_addTrain 5 (some .int), .fieldLink RX4 35 "LanternHouse$Rails" "trains" "I", .fieldLink RX4 11 "LanternHouse$Rails" "froms" "[I", .fieldLink RX4 15 "LanternHouse$Rails" "tos" "[I", .fieldLink RX4 18 "LanternHouse$Rails" "hours" "[I", .fieldLink RX4 21 "LanternHouse$Rails" "lengths" "[I", .methodLink RX4 38 yX4_isHall, .instanceMethod yX4_isHall, .selects RX4 yX4_isHall yX4_isHall, .code yX4_isHall cX4_isHall 2 (some .boolean), .fieldLink RX4 31 "LanternHouse$Rails" "halls" "I"] ++ wsX110 ++ wsX40)
def wsX11_plate : List Cond := .code yX11_plate cX11_plate 2 (some .int) :: ([.fieldLink RX11 42 "LanternHouse" "stock" "LLanternHouse$Stock;", .methodLink RX11 134 yX8_add, .instanceMethod yX8_add, .selects RX8 yX8_add yX8_add, .initialized RX8, .code yX8_add cX8_add 2 (some .int), .fieldLink RX8 18 "LanternHouse$Stock" "size" "I", .fieldLink RX8 11 "LanternHouse$Stock" "kinds" "[I", .fieldLink RX8 15 "LanternHouse$Stock" "platesOfKind" "[I"] ++ wsX110 ++ wsX80)
def wsX11_cleaning : List Cond := .code yX11_cleaning cX11_cleaning 2 (some .boolean) :: ([.fieldLink RX11 70 "LanternHouse" "keeper" "LLanternHouse$Keeper;", .fieldLink RX11 138 "LanternHouse$Keeper" "cleaningHours" "I"] ++ wsX110 ++ wsX10)
def wsX11_cancel : List Cond := .code yX11_cancel cX11_cancel 3 (some .int) :: ([.fieldLink RX11 35 "LanternHouse" "rails" "LLanternHouse$Rails;", .fieldLink RX11 141 "LanternHouse$Rails" "trains" "I", .fieldLink RX11 49 "LanternHouse" "facts" "LLanternHouse$Facts;", .methodLink RX11 144 yX0_add, .instanceMethod yX0_add, .selects RX0 yX0_add yX0_add, .initialized RX0, .code yX0_add cX0_add 4 (some .int), .fieldLink RX0 26 "LanternHouse$Facts" "size" "I", .fieldLink RX0 11 "LanternHouse$Facts" "sorts" "[I", .fieldLink RX0 15 "LanternHouse$Facts" "subjects" "[I", .fieldLink RX0 18 "LanternHouse$Facts" "times" "[I"] ++ wsX110 ++ wsX40 ++ wsX00)
def wsX11_isPlate : List Cond := .code yX11_isPlate cX11_isPlate 2 (some .boolean) :: ([.fieldLink RX11 42 "LanternHouse" "stock" "LLanternHouse$Stock;", .fieldLink RX11 287 "LanternHouse$Stock" "size" "I"] ++ wsX110 ++ wsX80)
def wsX11_isHour : List Cond := .code yX11_isHour cX11_isHour 2 (some .boolean) :: ([])
def wsX11_look : List Cond := .code yX11_look cX11_look 4 (some .int) :: ([.fieldLink RX11 49 "LanternHouse" "facts" "LLanternHouse$Facts;", .methodLink RX11 147 yX11_isPlate, .instanceMethod yX11_isPlate, .selects RX11 yX11_isPlate yX11_isPlate, .initialized RX11, .code yX11_isPlate cX11_isPlate 2 (some .boolean), .fieldLink RX11 42 "LanternHouse" "stock" "LLanternHouse$Stock;", .fieldLink RX11 287 "LanternHouse$Stock" "size" "I", .methodLink RX11 151 yX11_isHour, .instanceMethod yX11_isHour, .selects RX11 yX11_isHour yX11_isHour, .code yX11_isHour cX11_isHour 2 (some .boolean), .methodLink RX11 144 yX0_add, .instanceMethod yX0_add, .selects RX0 yX0_add yX0_add, .initialized RX0, .code yX0_add cX0_add 4 (some .int), .fieldLink RX0 26 "LanternHouse$Facts" "size" "I", .fieldLink RX0 11 "LanternHouse$Facts" "sorts" "[I", .fieldLink RX0 15 "LanternHouse$Facts" "subjects" "[I", .fieldLink RX0 18 "LanternHouse$Facts" "times" "[I"] ++ wsX110 ++ wsX80 ++ wsX00)
def wsX11_show_r1 : List Cond := [Cond.fieldLink RX11 35 "LanternHouse" "rails" "LLanternHouse$Rails;", Cond.fieldLink RX11 61 "LanternHouse" "shows" "LLanternHouse$Shows;", Cond.methodLink RX11 154 yX4_isHall, Cond.instanceMethod yX4_isHall, Cond.selects RX4 yX4_isHall yX4_isHall, Cond.initialized RX4, Cond.code yX4_isHall cX4_isHall 2 (some .boolean), Cond.fieldLink RX4 31 "LanternHouse$Rails" "halls" "I", Cond.methodLink RX11 157 yX7_add, Cond.instanceMethod yX7_add, Cond.selects RX7 yX7_add yX7_add, Cond.initialized RX7, Cond.code yX7_add cX7_add 6 (some .int), Cond.fieldLink RX7 30 "LanternHouse$Shows" "size" "I", Cond.fieldLink RX7 34 "LanternHouse$Shows" "text" "LLanternHouse$Lectures;", Cond.fieldLink RX7 42 "LanternHouse$Lectures" "size" "I", Cond.fieldLink RX7 11 "LanternHouse$Shows" "nights" "[I", Cond.fieldLink RX7 15 "LanternHouse$Shows" "halls" "[I", Cond.fieldLink RX7 18 "LanternHouse$Shows" "lectures" "[I", Cond.fieldLink RX7 21 "LanternHouse$Shows" "gas" "[I", Cond.fieldLink RX7 24 "LanternHouse$Shows" "worths" "[I", Cond.methodLink RX7 38 yX7_isTaken, Cond.instanceMethod yX7_isTaken, Cond.selects RX7 yX7_isTaken yX7_isTaken]
def wsX11_show_r2 : List Cond := [Cond.code yX7_isTaken cX7_isTaken 4 (some .boolean), Cond.methodLink RX7 45 yX7_putInOrder, Cond.instanceMethod yX7_putInOrder, Cond.selects RX7 yX7_putInOrder yX7_putInOrder, Cond.code yX7_putInOrder cX7_putInOrder 3 none, Cond.fieldLink RX7 27 "LanternHouse$Shows" "order" "[I"]
def wsX11_show : List Cond := .code yX11_show cX11_show 6 (some .int) :: ((wsX11_show_r1 ++ wsX11_show_r2) ++ wsX110 ++ wsX40 ++ wsX70 ++ wsX20)
def wsX11_way_r1 : List Cond := [Cond.fieldLink RX11 35 "LanternHouse" "rails" "LLanternHouse$Rails;", Cond.fieldLink RX11 49 "LanternHouse" "facts" "LLanternHouse$Facts;", Cond.methodLink RX11 154 yX4_isHall, Cond.instanceMethod yX4_isHall, Cond.selects RX4 yX4_isHall yX4_isHall, Cond.initialized RX4, Cond.code yX4_isHall cX4_isHall 2 (some .boolean), Cond.fieldLink RX4 31 "LanternHouse$Rails" "halls" "I", Cond.methodLink RX11 151 yX11_isHour, Cond.instanceMethod yX11_isHour, Cond.selects RX11 yX11_isHour yX11_isHour, Cond.initialized RX11, Cond.code yX11_isHour cX11_isHour 2 (some .boolean), Cond.methodLink RX11 160 yX0_isKnown, Cond.instanceMethod yX0_isKnown, Cond.selects RX0 yX0_isKnown yX0_isKnown, Cond.initialized RX0, Cond.code yX0_isKnown cX0_isKnown 2 (some .boolean), Cond.fieldLink RX0 26 "LanternHouse$Facts" "size" "I", Cond.methodLink RX11 163 yX4_learn, Cond.instanceMethod yX4_learn, Cond.selects RX4 yX4_learn yX4_learn, Cond.code yX4_learn cX4_learn 4 none, Cond.fieldLink RX4 24 "LanternHouse$Rails" "idleDays" "[J"]
def wsX11_way_r2 : List Cond := [Cond.fieldLink RX4 48 "LanternHouse$Facts" "sorts" "[I", Cond.fieldLink RX4 53 "LanternHouse$Facts" "subjects" "[I", Cond.fieldLink RX4 56 "LanternHouse$Facts" "times" "[I", Cond.methodLink RX4 42 yJ7_fill_d0a16, Cond.static yJ7_fill_d0a16, Cond.initialized RJ7, Cond.code yJ7_fill_d0a16 cJ7_fill_d0a16 5 none, Cond.methodLink RX11 167 yX4_soonest, Cond.instanceMethod yX4_soonest, Cond.selects RX4 yX4_soonest yX4_soonest, Cond.code yX4_soonest cX4_soonest 4 (some .int), Cond.fieldLink RX4 28 "LanternHouse$Rails" "reached" "[I", Cond.methodLink RX4 59 yX4_spread, Cond.instanceMethod yX4_spread, Cond.selects RX4 yX4_spread yX4_spread, Cond.code yX4_spread cX4_spread 11 none, Cond.fieldLink RX4 35 "LanternHouse$Rails" "trains" "I", Cond.fieldLink RX4 11 "LanternHouse$Rails" "froms" "[I", Cond.fieldLink RX4 15 "LanternHouse$Rails" "tos" "[I", Cond.methodLink RX4 63 yJ7_fill_53178, Cond.static yJ7_fill_53178, Cond.code yJ7_fill_53178 cJ7_fill_53178 4 none, Cond.methodLink RX4 66 yX4_arrival, Cond.instanceMethod yX4_arrival]
def wsX11_way_r3 : List Cond := [Cond.selects RX4 yX4_arrival yX4_arrival, Cond.code yX4_arrival cX4_arrival 5 (some .int), Cond.fieldLink RX4 18 "LanternHouse$Rails" "hours" "[I", Cond.fieldLink RX4 21 "LanternHouse$Rails" "lengths" "[I"]
def wsX11_way : List Cond := .code yX11_way cX11_way 5 (some .int) :: ((wsX11_way_r1 ++ (wsX11_way_r2 ++ wsX11_way_r3)) ++ wsX110 ++ wsX40 ++ wsX00)
def wsX11_broken_r1 : List Cond := [Cond.fieldLink RX11 49 "LanternHouse" "facts" "LLanternHouse$Facts;", Cond.methodLink RX11 147 yX11_isPlate, Cond.instanceMethod yX11_isPlate, Cond.selects RX11 yX11_isPlate yX11_isPlate, Cond.initialized RX11, Cond.code yX11_isPlate cX11_isPlate 2 (some .boolean), Cond.fieldLink RX11 42 "LanternHouse" "stock" "LLanternHouse$Stock;", Cond.fieldLink RX11 287 "LanternHouse$Stock" "size" "I", Cond.methodLink RX11 151 yX11_isHour, Cond.instanceMethod yX11_isHour, Cond.selects RX11 yX11_isHour yX11_isHour, Cond.code yX11_isHour cX11_isHour 2 (some .boolean), Cond.methodLink RX11 160 yX0_isKnown, Cond.instanceMethod yX0_isKnown, Cond.selects RX0 yX0_isKnown yX0_isKnown, Cond.initialized RX0, Cond.code yX0_isKnown cX0_isKnown 2 (some .boolean), Cond.fieldLink RX0 26 "LanternHouse$Facts" "size" "I", Cond.methodLink RX11 170 yX0_brokenPlates, Cond.instanceMethod yX0_brokenPlates, Cond.selects RX0 yX0_brokenPlates yX0_brokenPlates, Cond.code yX0_brokenPlates cX0_brokenPlates 7 (some .int), Cond.fieldLink RX0 23 "LanternHouse$Facts" "latest" "[I", Cond.fieldLink RX0 15 "LanternHouse$Facts" "subjects" "[I"]
def wsX11_broken_r2 : List Cond := [Cond.fieldLink RX0 11 "LanternHouse$Facts" "sorts" "[I", Cond.fieldLink RX0 18 "LanternHouse$Facts" "times" "[I", Cond.methodLink RX0 30 yJ7_fill_53178, Cond.static yJ7_fill_53178, Cond.initialized RJ7, Cond.code yJ7_fill_53178 cJ7_fill_53178 4 none]
def wsX11_broken : List Cond := .code yX11_broken cX11_broken 4 (some .int) :: ((wsX11_broken_r1 ++ wsX11_broken_r2) ++ wsX110 ++ wsX80 ++ wsX00)
def wsX11_can_r1 : List Cond := [Cond.fieldLink RX11 61 "LanternHouse" "shows" "LLanternHouse$Shows;", Cond.fieldLink RX11 49 "LanternHouse" "facts" "LLanternHouse$Facts;", Cond.fieldLink RX11 70 "LanternHouse" "keeper" "LLanternHouse$Keeper;", Cond.fieldLink RX11 92 "LanternHouse" "trial" "LLanternHouse$Plan;", Cond.fieldLink RX11 184 "LanternHouse$Plan" "worth" "I", Cond.methodLink RX11 174 yX7_all, Cond.instanceMethod yX7_all, Cond.selects RX7 yX7_all yX7_all, Cond.initialized RX7, Cond.code yX7_all cX7_all 1 (some .int), Cond.fieldLink RX7 30 "LanternHouse$Shows" "size" "I", Cond.methodLink RX11 160 yX0_isKnown, Cond.instanceMethod yX0_isKnown, Cond.selects RX0 yX0_isKnown yX0_isKnown, Cond.initialized RX0, Cond.code yX0_isKnown cX0_isKnown 2 (some .boolean), Cond.fieldLink RX0 26 "LanternHouse$Facts" "size" "I", Cond.methodLink RX11 177 yX1_prepare, Cond.instanceMethod yX1_prepare, Cond.selects RX1 yX1_prepare yX1_prepare, Cond.initialized RX1, Cond.code yX1_prepare cX1_prepare 3 none, Cond.fieldLink RX1 45 "LanternHouse$Keeper" "rails" "LLanternHouse$Rails;", Cond.fieldLink RX1 41 "LanternHouse$Keeper" "facts" "LLanternHouse$Facts;"]
def wsX11_can_r2 : List Cond := [Cond.fieldLink RX1 15 "LanternHouse$Keeper" "arrivals" "[[I", Cond.fieldLink RX1 33 "LanternHouse$Keeper" "shows" "LLanternHouse$Shows;", Cond.fieldLink RX1 57 "LanternHouse$Shows" "size" "I", Cond.fieldLink RX1 60 "LanternHouse$Shows" "halls" "[I", Cond.fieldLink RX1 29 "LanternHouse$Keeper" "cleaningHours" "I", Cond.fieldLink RX1 20 "LanternHouse$Keeper" "broken" "[I", Cond.methodLink RX1 49 yX4_learn, Cond.instanceMethod yX4_learn, Cond.selects RX4 yX4_learn yX4_learn, Cond.initialized RX4, Cond.code yX4_learn cX4_learn 4 none, Cond.fieldLink RX4 24 "LanternHouse$Rails" "idleDays" "[J", Cond.fieldLink RX4 48 "LanternHouse$Facts" "sorts" "[I", Cond.fieldLink RX4 53 "LanternHouse$Facts" "subjects" "[I", Cond.fieldLink RX4 56 "LanternHouse$Facts" "times" "[I", Cond.methodLink RX4 42 yJ7_fill_d0a16, Cond.static yJ7_fill_d0a16, Cond.initialized RJ7, Cond.code yJ7_fill_d0a16 cJ7_fill_d0a16 5 none, Cond.methodLink RX1 53 yX4_spread, Cond.instanceMethod yX4_spread, Cond.selects RX4 yX4_spread yX4_spread, Cond.code yX4_spread cX4_spread 11 none, Cond.fieldLink RX4 35 "LanternHouse$Rails" "trains" "I"]
def wsX11_can_r3 : List Cond := [Cond.fieldLink RX4 11 "LanternHouse$Rails" "froms" "[I", Cond.fieldLink RX4 15 "LanternHouse$Rails" "tos" "[I", Cond.methodLink RX4 63 yJ7_fill_53178, Cond.static yJ7_fill_53178, Cond.code yJ7_fill_53178 cJ7_fill_53178 4 none, Cond.methodLink RX4 66 yX4_arrival, Cond.instanceMethod yX4_arrival, Cond.selects RX4 yX4_arrival yX4_arrival, Cond.code yX4_arrival cX4_arrival 5 (some .int), Cond.fieldLink RX4 18 "LanternHouse$Rails" "hours" "[I", Cond.fieldLink RX4 21 "LanternHouse$Rails" "lengths" "[I", Cond.methodLink RX1 63 yX7_freeHour, Cond.instanceMethod yX7_freeHour, Cond.selects RX7 yX7_freeHour yX7_freeHour, Cond.code yX7_freeHour cX7_freeHour 2 (some .int), Cond.fieldLink RX7 11 "LanternHouse$Shows" "nights" "[I", Cond.methodLink RX1 67 yX7_dueHour, Cond.instanceMethod yX7_dueHour, Cond.selects RX7 yX7_dueHour yX7_dueHour, Cond.code yX7_dueHour cX7_dueHour 2 (some .int), Cond.methodLink RX1 70 yX0_brokenPlates, Cond.instanceMethod yX0_brokenPlates, Cond.selects RX0 yX0_brokenPlates yX0_brokenPlates, Cond.code yX0_brokenPlates cX0_brokenPlates 7 (some .int)]
def wsX11_can_r4 : List Cond := [Cond.fieldLink RX0 23 "LanternHouse$Facts" "latest" "[I", Cond.fieldLink RX0 15 "LanternHouse$Facts" "subjects" "[I", Cond.fieldLink RX0 11 "LanternHouse$Facts" "sorts" "[I", Cond.fieldLink RX0 18 "LanternHouse$Facts" "times" "[I", Cond.methodLink RX0 30 yJ7_fill_53178, Cond.methodLink RX11 180 yX1_keep, Cond.instanceMethod yX1_keep, Cond.selects RX1 yX1_keep yX1_keep, Cond.code yX1_keep cX1_keep 5 (some .boolean), Cond.fieldLink RX1 26 "LanternHouse$Keeper" "freeAt" "[I", Cond.fieldLink RX1 91 "LanternHouse$Shows" "order" "[I", Cond.methodLink RX1 76 yX7_worthOf, Cond.instanceMethod yX7_worthOf, Cond.selects RX7 yX7_worthOf yX7_worthOf, Cond.code yX7_worthOf cX7_worthOf 4 (some .int), Cond.fieldLink RX7 24 "LanternHouse$Shows" "worths" "[I", Cond.methodLink RX1 79 yX3_begin, Cond.instanceMethod yX3_begin, Cond.selects RX3 yX3_begin yX3_begin, Cond.initialized RX3, Cond.code yX3_begin cX3_begin 3 none, Cond.fieldLink RX3 26 "LanternHouse$Plan" "set" "I", Cond.fieldLink RX3 30 "LanternHouse$Plan" "worth" "I", Cond.fieldLink RX3 33 "LanternHouse$Plan" "changes" "I"]
def wsX11_can_r5 : List Cond := [Cond.fieldLink RX3 36 "LanternHouse$Plan" "missed" "I", Cond.fieldLink RX3 39 "LanternHouse$Plan" "instead" "I", Cond.methodLink RX1 85 yJ7_fill_53178, Cond.methodLink RX1 94 yX3_has, Cond.instanceMethod yX3_has, Cond.selects RX3 yX3_has yX3_has, Cond.code yX3_has cX3_has 2 (some .boolean), Cond.methodLink RX1 98 yX1_keepShow, Cond.instanceMethod yX1_keepShow, Cond.selects RX1 yX1_keepShow yX1_keepShow, Cond.code yX1_keepShow cX1_keepShow 11 (some .boolean), Cond.fieldLink RX1 102 "LanternHouse$Shows" "text" "LLanternHouse$Lectures;", Cond.fieldLink RX1 106 "LanternHouse$Shows" "lectures" "[I", Cond.fieldLink RX1 120 "LanternHouse$Lectures" "musts" "[Z", Cond.fieldLink RX1 131 "LanternHouse$Lectures" "kinds" "[I", Cond.fieldLink RX1 37 "LanternHouse$Keeper" "stock" "LLanternHouse$Stock;", Cond.fieldLink RX1 134 "LanternHouse$Stock" "platesOfKind" "[I", Cond.methodLink RX1 111 yX1_platesThatCome, Cond.instanceMethod yX1_platesThatCome, Cond.selects RX1 yX1_platesThatCome yX1_platesThatCome, Cond.code yX1_platesThatCome cX1_platesThatCome 5 (some .int), Cond.fieldLink RX1 147 "LanternHouse$Stock" "size" "I", Cond.methodLink RX1 114 yX7_cuesOf, Cond.instanceMethod yX7_cuesOf]
def wsX11_can_r6 : List Cond := [Cond.selects RX7 yX7_cuesOf yX7_cuesOf, Cond.code yX7_cuesOf cX7_cuesOf 2 (some .int), Cond.fieldLink RX7 34 "LanternHouse$Shows" "text" "LLanternHouse$Lectures;", Cond.fieldLink RX7 49 "LanternHouse$Lectures" "cueCounts" "[I", Cond.fieldLink RX7 18 "LanternHouse$Shows" "lectures" "[I", Cond.methodLink RX1 117 yX1_firstChoice, Cond.instanceMethod yX1_firstChoice, Cond.selects RX1 yX1_firstChoice yX1_firstChoice, Cond.code yX1_firstChoice cX1_firstChoice 6 (some .int), Cond.fieldLink RX1 148 "LanternHouse$Lectures" "kindCounts" "[I", Cond.methodLink RX1 124 yX3_slot, Cond.static yX3_slot, Cond.code yX3_slot cX3_slot 2 (some .int), Cond.methodLink RX1 127 yX3_miss, Cond.instanceMethod yX3_miss, Cond.selects RX3 yX3_miss yX3_miss, Cond.code yX3_miss cX3_miss 2 none, Cond.fieldLink RX3 13 "LanternHouse$Plan" "plates" "[I", Cond.fieldLink RX3 19 "LanternHouse$Plan" "wayEnds" "[I", Cond.fieldLink RX3 22 "LanternHouse$Plan" "standIns" "[Z", Cond.methodLink RX1 137 yX1_lowestOf, Cond.static yX1_lowestOf, Cond.code yX1_lowestOf cX1_lowestOf 1 (some .int), Cond.methodLink RX1 151 yJ6_bitCount_0f7a4]
def wsX11_can_r7 : List Cond := [Cond.static yJ6_bitCount_0f7a4, Cond.initialized RJ6, Cond.code yJ6_bitCount_0f7a4 cJ6_bitCount_0f7a4 1 (some .int), Cond.constant RJ6 265 (1431655765), Cond.constant RJ6 266 (858993459), Cond.constant RJ6 267 (252645135), Cond.methodLink RX1 140 yX1_wayEnd, Cond.instanceMethod yX1_wayEnd, Cond.selects RX1 yX1_wayEnd yX1_wayEnd, Cond.code yX1_wayEnd cX1_wayEnd 6 (some .int), Cond.methodLink RX1 143 yX3_give, Cond.instanceMethod yX3_give, Cond.selects RX3 yX3_give yX3_give, Cond.code yX3_give cX3_give 5 none]
def wsX11_can : List Cond := .code yX11_can cX11_can 3 (some .int) :: ((wsX11_can_r1 ++ (wsX11_can_r2 ++ (wsX11_can_r3 ++ (wsX11_can_r4 ++ (wsX11_can_r5 ++ (wsX11_can_r6 ++ wsX11_can_r7)))))) ++ wsX110 ++ wsX30 ++ wsX70 ++ wsX00 ++ wsX10 ++ wsX40 ++ wsX20 ++ wsX80)
def wsX11_changes : List Cond := .code yX11_changes cX11_changes 2 (some .int) :: ([.methodLink RX11 293 yJ6_bitCount_0f7a4, .static yJ6_bitCount_0f7a4, .initialized RJ6, .code yJ6_bitCount_0f7a4 cJ6_bitCount_0f7a4 1 (some .int), .constant RJ6 265 (1431655765), .constant RJ6 266 (858993459), .constant RJ6 267 (252645135)])
def wsX11_settle_r1 : List Cond := [Cond.fieldLink RX11 70 "LanternHouse" "keeper" "LLanternHouse$Keeper;", Cond.fieldLink RX11 88 "LanternHouse" "made" "LLanternHouse$Plan;", Cond.fieldLink RX11 194 "LanternHouse$Plan" "changes" "I", Cond.fieldLink RX11 61 "LanternHouse" "shows" "LLanternHouse$Shows;", Cond.fieldLink RX11 184 "LanternHouse$Plan" "worth" "I", Cond.fieldLink RX11 92 "LanternHouse" "trial" "LLanternHouse$Plan;", Cond.methodLink RX11 177 yX1_prepare, Cond.instanceMethod yX1_prepare, Cond.selects RX1 yX1_prepare yX1_prepare, Cond.initialized RX1, Cond.code yX1_prepare cX1_prepare 3 none, Cond.fieldLink RX1 45 "LanternHouse$Keeper" "rails" "LLanternHouse$Rails;", Cond.fieldLink RX1 41 "LanternHouse$Keeper" "facts" "LLanternHouse$Facts;", Cond.fieldLink RX1 15 "LanternHouse$Keeper" "arrivals" "[[I", Cond.fieldLink RX1 33 "LanternHouse$Keeper" "shows" "LLanternHouse$Shows;", Cond.fieldLink RX1 57 "LanternHouse$Shows" "size" "I", Cond.fieldLink RX1 60 "LanternHouse$Shows" "halls" "[I", Cond.fieldLink RX1 29 "LanternHouse$Keeper" "cleaningHours" "I", Cond.fieldLink RX1 20 "LanternHouse$Keeper" "broken" "[I", Cond.methodLink RX1 49 yX4_learn, Cond.instanceMethod yX4_learn, Cond.selects RX4 yX4_learn yX4_learn, Cond.initialized RX4, Cond.code yX4_learn cX4_learn 4 none]
def wsX11_settle_r2 : List Cond := [Cond.fieldLink RX4 24 "LanternHouse$Rails" "idleDays" "[J", Cond.fieldLink RX4 48 "LanternHouse$Facts" "sorts" "[I", Cond.fieldLink RX4 53 "LanternHouse$Facts" "subjects" "[I", Cond.fieldLink RX4 56 "LanternHouse$Facts" "times" "[I", Cond.methodLink RX4 42 yJ7_fill_d0a16, Cond.static yJ7_fill_d0a16, Cond.initialized RJ7, Cond.code yJ7_fill_d0a16 cJ7_fill_d0a16 5 none, Cond.methodLink RX1 53 yX4_spread, Cond.instanceMethod yX4_spread, Cond.selects RX4 yX4_spread yX4_spread, Cond.code yX4_spread cX4_spread 11 none, Cond.fieldLink RX4 35 "LanternHouse$Rails" "trains" "I", Cond.fieldLink RX4 11 "LanternHouse$Rails" "froms" "[I", Cond.fieldLink RX4 15 "LanternHouse$Rails" "tos" "[I", Cond.methodLink RX4 63 yJ7_fill_53178, Cond.static yJ7_fill_53178, Cond.code yJ7_fill_53178 cJ7_fill_53178 4 none, Cond.methodLink RX4 66 yX4_arrival, Cond.instanceMethod yX4_arrival, Cond.selects RX4 yX4_arrival yX4_arrival, Cond.code yX4_arrival cX4_arrival 5 (some .int), Cond.fieldLink RX4 18 "LanternHouse$Rails" "hours" "[I", Cond.fieldLink RX4 21 "LanternHouse$Rails" "lengths" "[I"]
def wsX11_settle_r3 : List Cond := [Cond.methodLink RX1 63 yX7_freeHour, Cond.instanceMethod yX7_freeHour, Cond.selects RX7 yX7_freeHour yX7_freeHour, Cond.initialized RX7, Cond.code yX7_freeHour cX7_freeHour 2 (some .int), Cond.fieldLink RX7 11 "LanternHouse$Shows" "nights" "[I", Cond.methodLink RX1 67 yX7_dueHour, Cond.instanceMethod yX7_dueHour, Cond.selects RX7 yX7_dueHour yX7_dueHour, Cond.code yX7_dueHour cX7_dueHour 2 (some .int), Cond.methodLink RX1 70 yX0_brokenPlates, Cond.instanceMethod yX0_brokenPlates, Cond.selects RX0 yX0_brokenPlates yX0_brokenPlates, Cond.initialized RX0, Cond.code yX0_brokenPlates cX0_brokenPlates 7 (some .int), Cond.fieldLink RX0 23 "LanternHouse$Facts" "latest" "[I", Cond.fieldLink RX0 15 "LanternHouse$Facts" "subjects" "[I", Cond.fieldLink RX0 11 "LanternHouse$Facts" "sorts" "[I", Cond.fieldLink RX0 18 "LanternHouse$Facts" "times" "[I", Cond.methodLink RX0 30 yJ7_fill_53178, Cond.methodLink RX11 180 yX1_keep, Cond.instanceMethod yX1_keep, Cond.selects RX1 yX1_keep yX1_keep, Cond.code yX1_keep cX1_keep 5 (some .boolean)]
def wsX11_settle_r4 : List Cond := [Cond.fieldLink RX1 26 "LanternHouse$Keeper" "freeAt" "[I", Cond.fieldLink RX1 91 "LanternHouse$Shows" "order" "[I", Cond.methodLink RX1 76 yX7_worthOf, Cond.instanceMethod yX7_worthOf, Cond.selects RX7 yX7_worthOf yX7_worthOf, Cond.code yX7_worthOf cX7_worthOf 4 (some .int), Cond.fieldLink RX7 30 "LanternHouse$Shows" "size" "I", Cond.fieldLink RX7 24 "LanternHouse$Shows" "worths" "[I", Cond.methodLink RX1 79 yX3_begin, Cond.instanceMethod yX3_begin, Cond.selects RX3 yX3_begin yX3_begin, Cond.initialized RX3, Cond.code yX3_begin cX3_begin 3 none, Cond.fieldLink RX3 26 "LanternHouse$Plan" "set" "I", Cond.fieldLink RX3 30 "LanternHouse$Plan" "worth" "I", Cond.fieldLink RX3 33 "LanternHouse$Plan" "changes" "I", Cond.fieldLink RX3 36 "LanternHouse$Plan" "missed" "I", Cond.fieldLink RX3 39 "LanternHouse$Plan" "instead" "I", Cond.methodLink RX1 85 yJ7_fill_53178, Cond.methodLink RX1 94 yX3_has, Cond.instanceMethod yX3_has, Cond.selects RX3 yX3_has yX3_has, Cond.code yX3_has cX3_has 2 (some .boolean), Cond.methodLink RX1 98 yX1_keepShow]
def wsX11_settle_r5 : List Cond := [Cond.instanceMethod yX1_keepShow, Cond.selects RX1 yX1_keepShow yX1_keepShow, Cond.code yX1_keepShow cX1_keepShow 11 (some .boolean), Cond.fieldLink RX1 102 "LanternHouse$Shows" "text" "LLanternHouse$Lectures;", Cond.fieldLink RX1 106 "LanternHouse$Shows" "lectures" "[I", Cond.fieldLink RX1 120 "LanternHouse$Lectures" "musts" "[Z", Cond.fieldLink RX1 131 "LanternHouse$Lectures" "kinds" "[I", Cond.fieldLink RX1 37 "LanternHouse$Keeper" "stock" "LLanternHouse$Stock;", Cond.fieldLink RX1 134 "LanternHouse$Stock" "platesOfKind" "[I", Cond.methodLink RX1 111 yX1_platesThatCome, Cond.instanceMethod yX1_platesThatCome, Cond.selects RX1 yX1_platesThatCome yX1_platesThatCome, Cond.code yX1_platesThatCome cX1_platesThatCome 5 (some .int), Cond.fieldLink RX1 147 "LanternHouse$Stock" "size" "I", Cond.methodLink RX1 114 yX7_cuesOf, Cond.instanceMethod yX7_cuesOf, Cond.selects RX7 yX7_cuesOf yX7_cuesOf, Cond.code yX7_cuesOf cX7_cuesOf 2 (some .int), Cond.fieldLink RX7 34 "LanternHouse$Shows" "text" "LLanternHouse$Lectures;", Cond.fieldLink RX7 49 "LanternHouse$Lectures" "cueCounts" "[I", Cond.fieldLink RX7 18 "LanternHouse$Shows" "lectures" "[I", Cond.methodLink RX1 117 yX1_firstChoice, Cond.instanceMethod yX1_firstChoice, Cond.selects RX1 yX1_firstChoice yX1_firstChoice]
def wsX11_settle_r6 : List Cond := [Cond.code yX1_firstChoice cX1_firstChoice 6 (some .int), Cond.fieldLink RX1 148 "LanternHouse$Lectures" "kindCounts" "[I", Cond.methodLink RX1 124 yX3_slot, Cond.static yX3_slot, Cond.code yX3_slot cX3_slot 2 (some .int), Cond.methodLink RX1 127 yX3_miss, Cond.instanceMethod yX3_miss, Cond.selects RX3 yX3_miss yX3_miss, Cond.code yX3_miss cX3_miss 2 none, Cond.fieldLink RX3 13 "LanternHouse$Plan" "plates" "[I", Cond.fieldLink RX3 19 "LanternHouse$Plan" "wayEnds" "[I", Cond.fieldLink RX3 22 "LanternHouse$Plan" "standIns" "[Z", Cond.methodLink RX1 137 yX1_lowestOf, Cond.static yX1_lowestOf, Cond.code yX1_lowestOf cX1_lowestOf 1 (some .int), Cond.methodLink RX1 151 yJ6_bitCount_0f7a4, Cond.static yJ6_bitCount_0f7a4, Cond.initialized RJ6, Cond.code yJ6_bitCount_0f7a4 cJ6_bitCount_0f7a4 1 (some .int), Cond.constant RJ6 265 (1431655765), Cond.constant RJ6 266 (858993459), Cond.constant RJ6 267 (252645135), Cond.methodLink RX1 140 yX1_wayEnd, Cond.instanceMethod yX1_wayEnd]
def wsX11_settle_r7 : List Cond := [Cond.selects RX1 yX1_wayEnd yX1_wayEnd, Cond.code yX1_wayEnd cX1_wayEnd 6 (some .int), Cond.methodLink RX1 143 yX3_give, Cond.instanceMethod yX3_give, Cond.selects RX3 yX3_give yX3_give, Cond.code yX3_give cX3_give 5 none, Cond.methodLink RX11 303 yX11_changes, Cond.static yX11_changes, Cond.initialized RX11, Cond.code yX11_changes cX11_changes 2 (some .int), Cond.methodLink RX11 293 yJ6_bitCount_0f7a4, Cond.methodLink RX11 174 yX7_all, Cond.instanceMethod yX7_all, Cond.selects RX7 yX7_all yX7_all, Cond.code yX7_all cX7_all 1 (some .int), Cond.methodLink RX11 305 yX7_worthOf, Cond.methodLink RX11 308 yX3_isBetterThan, Cond.instanceMethod yX3_isBetterThan, Cond.selects RX3 yX3_isBetterThan yX3_isBetterThan, Cond.code yX3_isBetterThan cX3_isBetterThan 3 (some .boolean)]
def wsX11_settle : List Cond := .code yX11_settle cX11_settle 5 none :: ((wsX11_settle_r1 ++ (wsX11_settle_r2 ++ (wsX11_settle_r3 ++ (wsX11_settle_r4 ++ (wsX11_settle_r5 ++ (wsX11_settle_r6 ++ wsX11_settle_r7)))))) ++ wsX110 ++ wsX30 ++ wsX10 ++ wsX70 ++ wsX40 ++ wsX00 ++ wsX20 ++ wsX80)
def wsX11_make_r1 : List Cond := [Cond.fieldLink RX11 49 "LanternHouse" "facts" "LLanternHouse$Facts;", Cond.fieldLink RX11 95 "LanternHouse" "isMade" "Z", Cond.fieldLink RX11 88 "LanternHouse" "made" "LLanternHouse$Plan;", Cond.fieldLink RX11 184 "LanternHouse$Plan" "worth" "I", Cond.methodLink RX11 160 yX0_isKnown, Cond.instanceMethod yX0_isKnown, Cond.selects RX0 yX0_isKnown yX0_isKnown, Cond.initialized RX0, Cond.code yX0_isKnown cX0_isKnown 2 (some .boolean), Cond.fieldLink RX0 26 "LanternHouse$Facts" "size" "I", Cond.methodLink RX11 187 yX11_settle, Cond.instanceMethod yX11_settle, Cond.selects RX11 yX11_settle yX11_settle, Cond.initialized RX11, Cond.code yX11_settle cX11_settle 5 none, Cond.fieldLink RX11 70 "LanternHouse" "keeper" "LLanternHouse$Keeper;", Cond.fieldLink RX11 194 "LanternHouse$Plan" "changes" "I", Cond.fieldLink RX11 61 "LanternHouse" "shows" "LLanternHouse$Shows;", Cond.fieldLink RX11 92 "LanternHouse" "trial" "LLanternHouse$Plan;", Cond.methodLink RX11 177 yX1_prepare, Cond.instanceMethod yX1_prepare, Cond.selects RX1 yX1_prepare yX1_prepare, Cond.initialized RX1, Cond.code yX1_prepare cX1_prepare 3 none]
def wsX11_make_r2 : List Cond := [Cond.fieldLink RX1 45 "LanternHouse$Keeper" "rails" "LLanternHouse$Rails;", Cond.fieldLink RX1 41 "LanternHouse$Keeper" "facts" "LLanternHouse$Facts;", Cond.fieldLink RX1 15 "LanternHouse$Keeper" "arrivals" "[[I", Cond.fieldLink RX1 33 "LanternHouse$Keeper" "shows" "LLanternHouse$Shows;", Cond.fieldLink RX1 57 "LanternHouse$Shows" "size" "I", Cond.fieldLink RX1 60 "LanternHouse$Shows" "halls" "[I", Cond.fieldLink RX1 29 "LanternHouse$Keeper" "cleaningHours" "I", Cond.fieldLink RX1 20 "LanternHouse$Keeper" "broken" "[I", Cond.methodLink RX1 49 yX4_learn, Cond.instanceMethod yX4_learn, Cond.selects RX4 yX4_learn yX4_learn, Cond.initialized RX4, Cond.code yX4_learn cX4_learn 4 none, Cond.fieldLink RX4 24 "LanternHouse$Rails" "idleDays" "[J", Cond.fieldLink RX4 48 "LanternHouse$Facts" "sorts" "[I", Cond.fieldLink RX4 53 "LanternHouse$Facts" "subjects" "[I", Cond.fieldLink RX4 56 "LanternHouse$Facts" "times" "[I", Cond.methodLink RX4 42 yJ7_fill_d0a16, Cond.static yJ7_fill_d0a16, Cond.initialized RJ7, Cond.code yJ7_fill_d0a16 cJ7_fill_d0a16 5 none, Cond.methodLink RX1 53 yX4_spread, Cond.instanceMethod yX4_spread, Cond.selects RX4 yX4_spread yX4_spread]
def wsX11_make_r3 : List Cond := [Cond.code yX4_spread cX4_spread 11 none, Cond.fieldLink RX4 35 "LanternHouse$Rails" "trains" "I", Cond.fieldLink RX4 11 "LanternHouse$Rails" "froms" "[I", Cond.fieldLink RX4 15 "LanternHouse$Rails" "tos" "[I", Cond.methodLink RX4 63 yJ7_fill_53178, Cond.static yJ7_fill_53178, Cond.code yJ7_fill_53178 cJ7_fill_53178 4 none, Cond.methodLink RX4 66 yX4_arrival, Cond.instanceMethod yX4_arrival, Cond.selects RX4 yX4_arrival yX4_arrival, Cond.code yX4_arrival cX4_arrival 5 (some .int), Cond.fieldLink RX4 18 "LanternHouse$Rails" "hours" "[I", Cond.fieldLink RX4 21 "LanternHouse$Rails" "lengths" "[I", Cond.methodLink RX1 63 yX7_freeHour, Cond.instanceMethod yX7_freeHour, Cond.selects RX7 yX7_freeHour yX7_freeHour, Cond.initialized RX7, Cond.code yX7_freeHour cX7_freeHour 2 (some .int), Cond.fieldLink RX7 11 "LanternHouse$Shows" "nights" "[I", Cond.methodLink RX1 67 yX7_dueHour, Cond.instanceMethod yX7_dueHour, Cond.selects RX7 yX7_dueHour yX7_dueHour, Cond.code yX7_dueHour cX7_dueHour 2 (some .int), Cond.methodLink RX1 70 yX0_brokenPlates]
def wsX11_make_r4 : List Cond := [Cond.instanceMethod yX0_brokenPlates, Cond.selects RX0 yX0_brokenPlates yX0_brokenPlates, Cond.code yX0_brokenPlates cX0_brokenPlates 7 (some .int), Cond.fieldLink RX0 23 "LanternHouse$Facts" "latest" "[I", Cond.fieldLink RX0 15 "LanternHouse$Facts" "subjects" "[I", Cond.fieldLink RX0 11 "LanternHouse$Facts" "sorts" "[I", Cond.fieldLink RX0 18 "LanternHouse$Facts" "times" "[I", Cond.methodLink RX0 30 yJ7_fill_53178, Cond.methodLink RX11 180 yX1_keep, Cond.instanceMethod yX1_keep, Cond.selects RX1 yX1_keep yX1_keep, Cond.code yX1_keep cX1_keep 5 (some .boolean), Cond.fieldLink RX1 26 "LanternHouse$Keeper" "freeAt" "[I", Cond.fieldLink RX1 91 "LanternHouse$Shows" "order" "[I", Cond.methodLink RX1 76 yX7_worthOf, Cond.instanceMethod yX7_worthOf, Cond.selects RX7 yX7_worthOf yX7_worthOf, Cond.code yX7_worthOf cX7_worthOf 4 (some .int), Cond.fieldLink RX7 30 "LanternHouse$Shows" "size" "I", Cond.fieldLink RX7 24 "LanternHouse$Shows" "worths" "[I", Cond.methodLink RX1 79 yX3_begin, Cond.instanceMethod yX3_begin, Cond.selects RX3 yX3_begin yX3_begin, Cond.initialized RX3]
def wsX11_make_r5 : List Cond := [Cond.code yX3_begin cX3_begin 3 none, Cond.fieldLink RX3 26 "LanternHouse$Plan" "set" "I", Cond.fieldLink RX3 30 "LanternHouse$Plan" "worth" "I", Cond.fieldLink RX3 33 "LanternHouse$Plan" "changes" "I", Cond.fieldLink RX3 36 "LanternHouse$Plan" "missed" "I", Cond.fieldLink RX3 39 "LanternHouse$Plan" "instead" "I", Cond.methodLink RX1 85 yJ7_fill_53178, Cond.methodLink RX1 94 yX3_has, Cond.instanceMethod yX3_has, Cond.selects RX3 yX3_has yX3_has, Cond.code yX3_has cX3_has 2 (some .boolean), Cond.methodLink RX1 98 yX1_keepShow, Cond.instanceMethod yX1_keepShow, Cond.selects RX1 yX1_keepShow yX1_keepShow, Cond.code yX1_keepShow cX1_keepShow 11 (some .boolean), Cond.fieldLink RX1 102 "LanternHouse$Shows" "text" "LLanternHouse$Lectures;", Cond.fieldLink RX1 106 "LanternHouse$Shows" "lectures" "[I", Cond.fieldLink RX1 120 "LanternHouse$Lectures" "musts" "[Z", Cond.fieldLink RX1 131 "LanternHouse$Lectures" "kinds" "[I", Cond.fieldLink RX1 37 "LanternHouse$Keeper" "stock" "LLanternHouse$Stock;", Cond.fieldLink RX1 134 "LanternHouse$Stock" "platesOfKind" "[I", Cond.methodLink RX1 111 yX1_platesThatCome, Cond.instanceMethod yX1_platesThatCome, Cond.selects RX1 yX1_platesThatCome yX1_platesThatCome]
def wsX11_make_r6 : List Cond := [Cond.code yX1_platesThatCome cX1_platesThatCome 5 (some .int), Cond.fieldLink RX1 147 "LanternHouse$Stock" "size" "I", Cond.methodLink RX1 114 yX7_cuesOf, Cond.instanceMethod yX7_cuesOf, Cond.selects RX7 yX7_cuesOf yX7_cuesOf, Cond.code yX7_cuesOf cX7_cuesOf 2 (some .int), Cond.fieldLink RX7 34 "LanternHouse$Shows" "text" "LLanternHouse$Lectures;", Cond.fieldLink RX7 49 "LanternHouse$Lectures" "cueCounts" "[I", Cond.fieldLink RX7 18 "LanternHouse$Shows" "lectures" "[I", Cond.methodLink RX1 117 yX1_firstChoice, Cond.instanceMethod yX1_firstChoice, Cond.selects RX1 yX1_firstChoice yX1_firstChoice, Cond.code yX1_firstChoice cX1_firstChoice 6 (some .int), Cond.fieldLink RX1 148 "LanternHouse$Lectures" "kindCounts" "[I", Cond.methodLink RX1 124 yX3_slot, Cond.static yX3_slot, Cond.code yX3_slot cX3_slot 2 (some .int), Cond.methodLink RX1 127 yX3_miss, Cond.instanceMethod yX3_miss, Cond.selects RX3 yX3_miss yX3_miss, Cond.code yX3_miss cX3_miss 2 none, Cond.fieldLink RX3 13 "LanternHouse$Plan" "plates" "[I", Cond.fieldLink RX3 19 "LanternHouse$Plan" "wayEnds" "[I", Cond.fieldLink RX3 22 "LanternHouse$Plan" "standIns" "[Z"]
def wsX11_make_r7 : List Cond := [Cond.methodLink RX1 137 yX1_lowestOf, Cond.static yX1_lowestOf, Cond.code yX1_lowestOf cX1_lowestOf 1 (some .int), Cond.methodLink RX1 151 yJ6_bitCount_0f7a4, Cond.static yJ6_bitCount_0f7a4, Cond.initialized RJ6, Cond.code yJ6_bitCount_0f7a4 cJ6_bitCount_0f7a4 1 (some .int), Cond.constant RJ6 265 (1431655765), Cond.constant RJ6 266 (858993459), Cond.constant RJ6 267 (252645135), Cond.methodLink RX1 140 yX1_wayEnd, Cond.instanceMethod yX1_wayEnd, Cond.selects RX1 yX1_wayEnd yX1_wayEnd, Cond.code yX1_wayEnd cX1_wayEnd 6 (some .int), Cond.methodLink RX1 143 yX3_give, Cond.instanceMethod yX3_give, Cond.selects RX3 yX3_give yX3_give, Cond.code yX3_give cX3_give 5 none, Cond.methodLink RX11 303 yX11_changes, Cond.static yX11_changes, Cond.code yX11_changes cX11_changes 2 (some .int), Cond.methodLink RX11 293 yJ6_bitCount_0f7a4, Cond.methodLink RX11 174 yX7_all, Cond.instanceMethod yX7_all]
def wsX11_make_r8 : List Cond := [Cond.selects RX7 yX7_all yX7_all, Cond.code yX7_all cX7_all 1 (some .int), Cond.methodLink RX11 305 yX7_worthOf, Cond.methodLink RX11 308 yX3_isBetterThan, Cond.instanceMethod yX3_isBetterThan, Cond.selects RX3 yX3_isBetterThan yX3_isBetterThan, Cond.code yX3_isBetterThan cX3_isBetterThan 3 (some .boolean)]
def wsX11_make : List Cond := .code yX11_make cX11_make 2 (some .int) :: ((wsX11_make_r1 ++ (wsX11_make_r2 ++ (wsX11_make_r3 ++ (wsX11_make_r4 ++ (wsX11_make_r5 ++ (wsX11_make_r6 ++ (wsX11_make_r7 ++ wsX11_make_r8))))))) ++ wsX110 ++ wsX30 ++ wsX00 ++ wsX10 ++ wsX70 ++ wsX40 ++ wsX20 ++ wsX80)
def wsX11_mend_r1 : List Cond := [Cond.fieldLink RX11 95 "LanternHouse" "isMade" "Z", Cond.fieldLink RX11 49 "LanternHouse" "facts" "LLanternHouse$Facts;", Cond.fieldLink RX11 88 "LanternHouse" "made" "LLanternHouse$Plan;", Cond.fieldLink RX11 191 "LanternHouse$Plan" "set" "I", Cond.fieldLink RX11 194 "LanternHouse$Plan" "changes" "I", Cond.methodLink RX11 160 yX0_isKnown, Cond.instanceMethod yX0_isKnown, Cond.selects RX0 yX0_isKnown yX0_isKnown, Cond.initialized RX0, Cond.code yX0_isKnown cX0_isKnown 2 (some .boolean), Cond.fieldLink RX0 26 "LanternHouse$Facts" "size" "I", Cond.methodLink RX11 187 yX11_settle, Cond.instanceMethod yX11_settle, Cond.selects RX11 yX11_settle yX11_settle, Cond.initialized RX11, Cond.code yX11_settle cX11_settle 5 none, Cond.fieldLink RX11 70 "LanternHouse" "keeper" "LLanternHouse$Keeper;", Cond.fieldLink RX11 61 "LanternHouse" "shows" "LLanternHouse$Shows;", Cond.fieldLink RX11 184 "LanternHouse$Plan" "worth" "I", Cond.fieldLink RX11 92 "LanternHouse" "trial" "LLanternHouse$Plan;", Cond.methodLink RX11 177 yX1_prepare, Cond.instanceMethod yX1_prepare, Cond.selects RX1 yX1_prepare yX1_prepare, Cond.initialized RX1]
def wsX11_mend_r2 : List Cond := [Cond.code yX1_prepare cX1_prepare 3 none, Cond.fieldLink RX1 45 "LanternHouse$Keeper" "rails" "LLanternHouse$Rails;", Cond.fieldLink RX1 41 "LanternHouse$Keeper" "facts" "LLanternHouse$Facts;", Cond.fieldLink RX1 15 "LanternHouse$Keeper" "arrivals" "[[I", Cond.fieldLink RX1 33 "LanternHouse$Keeper" "shows" "LLanternHouse$Shows;", Cond.fieldLink RX1 57 "LanternHouse$Shows" "size" "I", Cond.fieldLink RX1 60 "LanternHouse$Shows" "halls" "[I", Cond.fieldLink RX1 29 "LanternHouse$Keeper" "cleaningHours" "I", Cond.fieldLink RX1 20 "LanternHouse$Keeper" "broken" "[I", Cond.methodLink RX1 49 yX4_learn, Cond.instanceMethod yX4_learn, Cond.selects RX4 yX4_learn yX4_learn, Cond.initialized RX4, Cond.code yX4_learn cX4_learn 4 none, Cond.fieldLink RX4 24 "LanternHouse$Rails" "idleDays" "[J", Cond.fieldLink RX4 48 "LanternHouse$Facts" "sorts" "[I", Cond.fieldLink RX4 53 "LanternHouse$Facts" "subjects" "[I", Cond.fieldLink RX4 56 "LanternHouse$Facts" "times" "[I", Cond.methodLink RX4 42 yJ7_fill_d0a16, Cond.static yJ7_fill_d0a16, Cond.initialized RJ7, Cond.code yJ7_fill_d0a16 cJ7_fill_d0a16 5 none, Cond.methodLink RX1 53 yX4_spread, Cond.instanceMethod yX4_spread]
def wsX11_mend_r3 : List Cond := [Cond.selects RX4 yX4_spread yX4_spread, Cond.code yX4_spread cX4_spread 11 none, Cond.fieldLink RX4 35 "LanternHouse$Rails" "trains" "I", Cond.fieldLink RX4 11 "LanternHouse$Rails" "froms" "[I", Cond.fieldLink RX4 15 "LanternHouse$Rails" "tos" "[I", Cond.methodLink RX4 63 yJ7_fill_53178, Cond.static yJ7_fill_53178, Cond.code yJ7_fill_53178 cJ7_fill_53178 4 none, Cond.methodLink RX4 66 yX4_arrival, Cond.instanceMethod yX4_arrival, Cond.selects RX4 yX4_arrival yX4_arrival, Cond.code yX4_arrival cX4_arrival 5 (some .int), Cond.fieldLink RX4 18 "LanternHouse$Rails" "hours" "[I", Cond.fieldLink RX4 21 "LanternHouse$Rails" "lengths" "[I", Cond.methodLink RX1 63 yX7_freeHour, Cond.instanceMethod yX7_freeHour, Cond.selects RX7 yX7_freeHour yX7_freeHour, Cond.initialized RX7, Cond.code yX7_freeHour cX7_freeHour 2 (some .int), Cond.fieldLink RX7 11 "LanternHouse$Shows" "nights" "[I", Cond.methodLink RX1 67 yX7_dueHour, Cond.instanceMethod yX7_dueHour, Cond.selects RX7 yX7_dueHour yX7_dueHour, Cond.code yX7_dueHour cX7_dueHour 2 (some .int)]
def wsX11_mend_r4 : List Cond := [Cond.methodLink RX1 70 yX0_brokenPlates, Cond.instanceMethod yX0_brokenPlates, Cond.selects RX0 yX0_brokenPlates yX0_brokenPlates, Cond.code yX0_brokenPlates cX0_brokenPlates 7 (some .int), Cond.fieldLink RX0 23 "LanternHouse$Facts" "latest" "[I", Cond.fieldLink RX0 15 "LanternHouse$Facts" "subjects" "[I", Cond.fieldLink RX0 11 "LanternHouse$Facts" "sorts" "[I", Cond.fieldLink RX0 18 "LanternHouse$Facts" "times" "[I", Cond.methodLink RX0 30 yJ7_fill_53178, Cond.methodLink RX11 180 yX1_keep, Cond.instanceMethod yX1_keep, Cond.selects RX1 yX1_keep yX1_keep, Cond.code yX1_keep cX1_keep 5 (some .boolean), Cond.fieldLink RX1 26 "LanternHouse$Keeper" "freeAt" "[I", Cond.fieldLink RX1 91 "LanternHouse$Shows" "order" "[I", Cond.methodLink RX1 76 yX7_worthOf, Cond.instanceMethod yX7_worthOf, Cond.selects RX7 yX7_worthOf yX7_worthOf, Cond.code yX7_worthOf cX7_worthOf 4 (some .int), Cond.fieldLink RX7 30 "LanternHouse$Shows" "size" "I", Cond.fieldLink RX7 24 "LanternHouse$Shows" "worths" "[I", Cond.methodLink RX1 79 yX3_begin, Cond.instanceMethod yX3_begin, Cond.selects RX3 yX3_begin yX3_begin]
def wsX11_mend_r5 : List Cond := [Cond.initialized RX3, Cond.code yX3_begin cX3_begin 3 none, Cond.fieldLink RX3 26 "LanternHouse$Plan" "set" "I", Cond.fieldLink RX3 30 "LanternHouse$Plan" "worth" "I", Cond.fieldLink RX3 33 "LanternHouse$Plan" "changes" "I", Cond.fieldLink RX3 36 "LanternHouse$Plan" "missed" "I", Cond.fieldLink RX3 39 "LanternHouse$Plan" "instead" "I", Cond.methodLink RX1 85 yJ7_fill_53178, Cond.methodLink RX1 94 yX3_has, Cond.instanceMethod yX3_has, Cond.selects RX3 yX3_has yX3_has, Cond.code yX3_has cX3_has 2 (some .boolean), Cond.methodLink RX1 98 yX1_keepShow, Cond.instanceMethod yX1_keepShow, Cond.selects RX1 yX1_keepShow yX1_keepShow, Cond.code yX1_keepShow cX1_keepShow 11 (some .boolean), Cond.fieldLink RX1 102 "LanternHouse$Shows" "text" "LLanternHouse$Lectures;", Cond.fieldLink RX1 106 "LanternHouse$Shows" "lectures" "[I", Cond.fieldLink RX1 120 "LanternHouse$Lectures" "musts" "[Z", Cond.fieldLink RX1 131 "LanternHouse$Lectures" "kinds" "[I", Cond.fieldLink RX1 37 "LanternHouse$Keeper" "stock" "LLanternHouse$Stock;", Cond.fieldLink RX1 134 "LanternHouse$Stock" "platesOfKind" "[I", Cond.methodLink RX1 111 yX1_platesThatCome, Cond.instanceMethod yX1_platesThatCome]
def wsX11_mend_r6 : List Cond := [Cond.selects RX1 yX1_platesThatCome yX1_platesThatCome, Cond.code yX1_platesThatCome cX1_platesThatCome 5 (some .int), Cond.fieldLink RX1 147 "LanternHouse$Stock" "size" "I", Cond.methodLink RX1 114 yX7_cuesOf, Cond.instanceMethod yX7_cuesOf, Cond.selects RX7 yX7_cuesOf yX7_cuesOf, Cond.code yX7_cuesOf cX7_cuesOf 2 (some .int), Cond.fieldLink RX7 34 "LanternHouse$Shows" "text" "LLanternHouse$Lectures;", Cond.fieldLink RX7 49 "LanternHouse$Lectures" "cueCounts" "[I", Cond.fieldLink RX7 18 "LanternHouse$Shows" "lectures" "[I", Cond.methodLink RX1 117 yX1_firstChoice, Cond.instanceMethod yX1_firstChoice, Cond.selects RX1 yX1_firstChoice yX1_firstChoice, Cond.code yX1_firstChoice cX1_firstChoice 6 (some .int), Cond.fieldLink RX1 148 "LanternHouse$Lectures" "kindCounts" "[I", Cond.methodLink RX1 124 yX3_slot, Cond.static yX3_slot, Cond.code yX3_slot cX3_slot 2 (some .int), Cond.methodLink RX1 127 yX3_miss, Cond.instanceMethod yX3_miss, Cond.selects RX3 yX3_miss yX3_miss, Cond.code yX3_miss cX3_miss 2 none, Cond.fieldLink RX3 13 "LanternHouse$Plan" "plates" "[I", Cond.fieldLink RX3 19 "LanternHouse$Plan" "wayEnds" "[I"]
def wsX11_mend_r7 : List Cond := [Cond.fieldLink RX3 22 "LanternHouse$Plan" "standIns" "[Z", Cond.methodLink RX1 137 yX1_lowestOf, Cond.static yX1_lowestOf, Cond.code yX1_lowestOf cX1_lowestOf 1 (some .int), Cond.methodLink RX1 151 yJ6_bitCount_0f7a4, Cond.static yJ6_bitCount_0f7a4, Cond.initialized RJ6, Cond.code yJ6_bitCount_0f7a4 cJ6_bitCount_0f7a4 1 (some .int), Cond.constant RJ6 265 (1431655765), Cond.constant RJ6 266 (858993459), Cond.constant RJ6 267 (252645135), Cond.methodLink RX1 140 yX1_wayEnd, Cond.instanceMethod yX1_wayEnd, Cond.selects RX1 yX1_wayEnd yX1_wayEnd, Cond.code yX1_wayEnd cX1_wayEnd 6 (some .int), Cond.methodLink RX1 143 yX3_give, Cond.instanceMethod yX3_give, Cond.selects RX3 yX3_give yX3_give, Cond.code yX3_give cX3_give 5 none, Cond.methodLink RX11 303 yX11_changes, Cond.static yX11_changes, Cond.code yX11_changes cX11_changes 2 (some .int), Cond.methodLink RX11 293 yJ6_bitCount_0f7a4, Cond.methodLink RX11 174 yX7_all]
def wsX11_mend_r8 : List Cond := [Cond.instanceMethod yX7_all, Cond.selects RX7 yX7_all yX7_all, Cond.code yX7_all cX7_all 1 (some .int), Cond.methodLink RX11 305 yX7_worthOf, Cond.methodLink RX11 308 yX3_isBetterThan, Cond.instanceMethod yX3_isBetterThan, Cond.selects RX3 yX3_isBetterThan yX3_isBetterThan, Cond.code yX3_isBetterThan cX3_isBetterThan 3 (some .boolean)]
def wsX11_mend : List Cond := .code yX11_mend cX11_mend 2 (some .int) :: ((wsX11_mend_r1 ++ (wsX11_mend_r2 ++ (wsX11_mend_r3 ++ (wsX11_mend_r4 ++ (wsX11_mend_r5 ++ (wsX11_mend_r6 ++ (wsX11_mend_r7 ++ wsX11_mend_r8))))))) ++ wsX110 ++ wsX30 ++ wsX00 ++ wsX10 ++ wsX70 ++ wsX40 ++ wsX20 ++ wsX80)
def wsX11_isKept : List Cond := .code yX11_isKept cX11_isKept 2 (some .boolean) :: ([.fieldLink RX11 95 "LanternHouse" "isMade" "Z", .fieldLink RX11 61 "LanternHouse" "shows" "LLanternHouse$Shows;", .fieldLink RX11 88 "LanternHouse" "made" "LLanternHouse$Plan;", .methodLink RX11 197 yX7_isShow, .instanceMethod yX7_isShow, .selects RX7 yX7_isShow yX7_isShow, .initialized RX7, .code yX7_isShow cX7_isShow 2 (some .boolean), .fieldLink RX7 30 "LanternHouse$Shows" "size" "I", .methodLink RX11 300 yX3_has, .instanceMethod yX3_has, .selects RX3 yX3_has yX3_has, .initialized RX3, .code yX3_has cX3_has 2 (some .boolean), .fieldLink RX3 26 "LanternHouse$Plan" "set" "I"] ++ wsX110 ++ wsX70 ++ wsX30)
def wsX11_told_r1 : List Cond := [Cond.fieldLink RX11 61 "LanternHouse" "shows" "LLanternHouse$Shows;", Cond.fieldLink RX11 200 "LanternHouse$Shows" "nights" "[I", Cond.fieldLink RX11 204 "LanternHouse$Shows" "halls" "[I", Cond.fieldLink RX11 207 "LanternHouse$Shows" "lectures" "[I", Cond.fieldLink RX11 210 "LanternHouse$Shows" "gas" "[I", Cond.fieldLink RX11 213 "LanternHouse$Shows" "worths" "[I", Cond.methodLink RX11 197 yX7_isShow, Cond.instanceMethod yX7_isShow, Cond.selects RX7 yX7_isShow yX7_isShow, Cond.initialized RX7, Cond.code yX7_isShow cX7_isShow 2 (some .boolean), Cond.fieldLink RX7 30 "LanternHouse$Shows" "size" "I", Cond.methodLink RX11 216 yX11_isKept, Cond.instanceMethod yX11_isKept, Cond.selects RX11 yX11_isKept yX11_isKept, Cond.initialized RX11, Cond.code yX11_isKept cX11_isKept 2 (some .boolean), Cond.fieldLink RX11 95 "LanternHouse" "isMade" "Z", Cond.fieldLink RX11 88 "LanternHouse" "made" "LLanternHouse$Plan;", Cond.methodLink RX11 300 yX3_has, Cond.instanceMethod yX3_has, Cond.selects RX3 yX3_has yX3_has, Cond.initialized RX3, Cond.code yX3_has cX3_has 2 (some .boolean)]
def wsX11_told_r2 : List Cond := [Cond.fieldLink RX3 26 "LanternHouse$Plan" "set" "I"]
def wsX11_told : List Cond := .code yX11_told cX11_told 3 (some .int) :: ((wsX11_told_r1 ++ wsX11_told_r2) ++ wsX110 ++ wsX70 ++ wsX30)
def wsX11_cue_r1 : List Cond := [Cond.fieldLink RX11 61 "LanternHouse" "shows" "LLanternHouse$Shows;", Cond.fieldLink RX11 88 "LanternHouse" "made" "LLanternHouse$Plan;", Cond.fieldLink RX11 225 "LanternHouse$Plan" "plates" "[I", Cond.fieldLink RX11 77 "LanternHouse" "lastShowing" "LLanternHouse$Showing;", Cond.fieldLink RX11 42 "LanternHouse" "stock" "LLanternHouse$Stock;", Cond.fieldLink RX11 235 "LanternHouse$Showing" "begins" "[I", Cond.fieldLink RX11 238 "LanternHouse$Showing" "isShown" "[Z", Cond.fieldLink RX11 242 "LanternHouse$Plan" "standIns" "[Z", Cond.methodLink RX11 216 yX11_isKept, Cond.instanceMethod yX11_isKept, Cond.selects RX11 yX11_isKept yX11_isKept, Cond.initialized RX11, Cond.code yX11_isKept cX11_isKept 2 (some .boolean), Cond.fieldLink RX11 95 "LanternHouse" "isMade" "Z", Cond.methodLink RX11 197 yX7_isShow, Cond.instanceMethod yX7_isShow, Cond.selects RX7 yX7_isShow yX7_isShow, Cond.initialized RX7, Cond.code yX7_isShow cX7_isShow 2 (some .boolean), Cond.fieldLink RX7 30 "LanternHouse$Shows" "size" "I", Cond.methodLink RX11 300 yX3_has, Cond.instanceMethod yX3_has, Cond.selects RX3 yX3_has yX3_has, Cond.initialized RX3]
def wsX11_cue_r2 : List Cond := [Cond.code yX3_has cX3_has 2 (some .boolean), Cond.fieldLink RX3 26 "LanternHouse$Plan" "set" "I", Cond.methodLink RX11 219 yX7_cuesOf, Cond.instanceMethod yX7_cuesOf, Cond.selects RX7 yX7_cuesOf yX7_cuesOf, Cond.code yX7_cuesOf cX7_cuesOf 2 (some .int), Cond.fieldLink RX7 34 "LanternHouse$Shows" "text" "LLanternHouse$Lectures;", Cond.fieldLink RX7 49 "LanternHouse$Lectures" "cueCounts" "[I", Cond.fieldLink RX7 18 "LanternHouse$Shows" "lectures" "[I", Cond.methodLink RX11 222 yX3_slot, Cond.static yX3_slot, Cond.code yX3_slot cX3_slot 2 (some .int), Cond.methodLink RX11 228 yX6_goThrough, Cond.instanceMethod yX6_goThrough, Cond.selects RX6 yX6_goThrough yX6_goThrough, Cond.initialized RX6, Cond.code yX6_goThrough cX6_goThrough 12 none, Cond.fieldLink RX6 54 "LanternHouse$Shows" "worths" "[I", Cond.fieldLink RX6 63 "LanternHouse$Shows" "text" "LLanternHouse$Lectures;", Cond.fieldLink RX6 67 "LanternHouse$Shows" "lectures" "[I", Cond.fieldLink RX6 80 "LanternHouse$Lectures" "minutes" "[I", Cond.fieldLink RX6 82 "LanternHouse$Lectures" "fades" "[I", Cond.fieldLink RX6 85 "LanternHouse$Plan" "plates" "[I", Cond.fieldLink RX6 13 "LanternHouse$Showing" "begins" "[I"]
def wsX11_cue_r3 : List Cond := [Cond.fieldLink RX6 19 "LanternHouse$Showing" "isShown" "[Z", Cond.fieldLink RX6 45 "LanternHouse$Showing" "firstDark" "I", Cond.fieldLink RX6 39 "LanternHouse$Showing" "gas" "I", Cond.fieldLink RX6 88 "LanternHouse$Shows" "gas" "[I", Cond.fieldLink RX6 26 "LanternHouse$Showing" "shown" "I", Cond.fieldLink RX6 36 "LanternHouse$Showing" "minutes" "I", Cond.fieldLink RX6 33 "LanternHouse$Showing" "instead" "I", Cond.fieldLink RX6 90 "LanternHouse$Plan" "standIns" "[Z", Cond.fieldLink RX6 30 "LanternHouse$Showing" "missed" "I", Cond.methodLink RX6 59 yX6_begin, Cond.instanceMethod yX6_begin, Cond.selects RX6 yX6_begin yX6_begin, Cond.code yX6_begin cX6_begin 2 none, Cond.fieldLink RX6 42 "LanternHouse$Showing" "worth" "I", Cond.fieldLink RX6 48 "LanternHouse$Showing" "hire" "I", Cond.fieldLink RX6 51 "LanternHouse$Showing" "hireNumber" "I", Cond.methodLink RX6 70 yX7_cuesOf, Cond.methodLink RX6 74 yX3_slot, Cond.methodLink RX6 93 yX6_findHire, Cond.instanceMethod yX6_findHire, Cond.selects RX6 yX6_findHire yX6_findHire, Cond.code yX6_findHire cX6_findHire 5 none, Cond.fieldLink RX6 97 "LanternHouse$Lectures" "hireCounts" "[I", Cond.fieldLink RX6 100 "LanternHouse$Lectures" "code" "[I"]
def wsX11_cue_r4 : List Cond := [Cond.fieldLink RX6 103 "LanternHouse$Lectures" "hireStarts" "[I", Cond.fieldLink RX6 106 "LanternHouse$Lectures" "hireEnds" "[I", Cond.fieldLink RX6 23 "LanternHouse$Showing" "values" "[I", Cond.methodLink RX6 109 yX6_holds, Cond.instanceMethod yX6_holds, Cond.selects RX6 yX6_holds yX6_holds, Cond.code yX6_holds cX6_holds 9 (some .boolean), Cond.methodLink RX6 113 yX10_isVar, Cond.static yX10_isVar, Cond.initialized RX10, Cond.code yX10_isVar cX10_isVar 1 (some .boolean), Cond.methodLink RX6 119 yX6_variable, Cond.instanceMethod yX6_variable, Cond.selects RX6 yX6_variable yX6_variable, Cond.code yX6_variable cX6_variable 2 (some .int), Cond.methodLink RX6 122 yX10_isRelation, Cond.static yX10_isRelation, Cond.code yX10_isRelation cX10_isRelation 1 (some .boolean), Cond.methodLink RX6 125 yX6_relates, Cond.static yX6_relates, Cond.code yX6_relates cX6_relates 3 (some .boolean), Cond.methodLink RX6 129 yX6_reckon, Cond.static yX6_reckon, Cond.code yX6_reckon cX6_reckon 3 (some .int)]
def wsX11_cue_r5 : List Cond := [Cond.methodLink RX11 232 yX8_kindOf, Cond.instanceMethod yX8_kindOf, Cond.selects RX8 yX8_kindOf yX8_kindOf, Cond.initialized RX8, Cond.code yX8_kindOf cX8_kindOf 2 (some .int), Cond.fieldLink RX8 18 "LanternHouse$Stock" "size" "I", Cond.fieldLink RX8 11 "LanternHouse$Stock" "kinds" "[I"]
def wsX11_cue : List Cond := .code yX11_cue cX11_cue 6 (some .int) :: ((wsX11_cue_r1 ++ (wsX11_cue_r2 ++ (wsX11_cue_r3 ++ (wsX11_cue_r4 ++ wsX11_cue_r5)))) ++ wsX110 ++ wsX30 ++ wsX60 ++ wsX70 ++ wsX20 ++ wsX80)
def wsX11_showing_r1 : List Cond := [Cond.fieldLink RX11 77 "LanternHouse" "lastShowing" "LLanternHouse$Showing;", Cond.fieldLink RX11 61 "LanternHouse" "shows" "LLanternHouse$Shows;", Cond.fieldLink RX11 88 "LanternHouse" "made" "LLanternHouse$Plan;", Cond.fieldLink RX11 245 "LanternHouse$Showing" "shown" "I", Cond.fieldLink RX11 248 "LanternHouse$Showing" "missed" "I", Cond.fieldLink RX11 251 "LanternHouse$Showing" "instead" "I", Cond.fieldLink RX11 254 "LanternHouse$Showing" "minutes" "I", Cond.fieldLink RX11 257 "LanternHouse$Showing" "gas" "I", Cond.fieldLink RX11 259 "LanternHouse$Showing" "hire" "I", Cond.fieldLink RX11 262 "LanternHouse$Showing" "firstDark" "I", Cond.fieldLink RX11 265 "LanternHouse$Showing" "hireNumber" "I", Cond.methodLink RX11 216 yX11_isKept, Cond.instanceMethod yX11_isKept, Cond.selects RX11 yX11_isKept yX11_isKept, Cond.initialized RX11, Cond.code yX11_isKept cX11_isKept 2 (some .boolean), Cond.fieldLink RX11 95 "LanternHouse" "isMade" "Z", Cond.methodLink RX11 197 yX7_isShow, Cond.instanceMethod yX7_isShow, Cond.selects RX7 yX7_isShow yX7_isShow, Cond.initialized RX7, Cond.code yX7_isShow cX7_isShow 2 (some .boolean), Cond.fieldLink RX7 30 "LanternHouse$Shows" "size" "I", Cond.methodLink RX11 300 yX3_has]
def wsX11_showing_r2 : List Cond := [Cond.instanceMethod yX3_has, Cond.selects RX3 yX3_has yX3_has, Cond.initialized RX3, Cond.code yX3_has cX3_has 2 (some .boolean), Cond.fieldLink RX3 26 "LanternHouse$Plan" "set" "I", Cond.methodLink RX11 228 yX6_goThrough, Cond.instanceMethod yX6_goThrough, Cond.selects RX6 yX6_goThrough yX6_goThrough, Cond.initialized RX6, Cond.code yX6_goThrough cX6_goThrough 12 none, Cond.fieldLink RX6 54 "LanternHouse$Shows" "worths" "[I", Cond.fieldLink RX6 63 "LanternHouse$Shows" "text" "LLanternHouse$Lectures;", Cond.fieldLink RX6 67 "LanternHouse$Shows" "lectures" "[I", Cond.fieldLink RX6 80 "LanternHouse$Lectures" "minutes" "[I", Cond.fieldLink RX6 82 "LanternHouse$Lectures" "fades" "[I", Cond.fieldLink RX6 85 "LanternHouse$Plan" "plates" "[I", Cond.fieldLink RX6 13 "LanternHouse$Showing" "begins" "[I", Cond.fieldLink RX6 19 "LanternHouse$Showing" "isShown" "[Z", Cond.fieldLink RX6 45 "LanternHouse$Showing" "firstDark" "I", Cond.fieldLink RX6 39 "LanternHouse$Showing" "gas" "I", Cond.fieldLink RX6 88 "LanternHouse$Shows" "gas" "[I", Cond.fieldLink RX6 26 "LanternHouse$Showing" "shown" "I", Cond.fieldLink RX6 36 "LanternHouse$Showing" "minutes" "I", Cond.fieldLink RX6 33 "LanternHouse$Showing" "instead" "I"]
def wsX11_showing_r3 : List Cond := [Cond.fieldLink RX6 90 "LanternHouse$Plan" "standIns" "[Z", Cond.fieldLink RX6 30 "LanternHouse$Showing" "missed" "I", Cond.methodLink RX6 59 yX6_begin, Cond.instanceMethod yX6_begin, Cond.selects RX6 yX6_begin yX6_begin, Cond.code yX6_begin cX6_begin 2 none, Cond.fieldLink RX6 42 "LanternHouse$Showing" "worth" "I", Cond.fieldLink RX6 48 "LanternHouse$Showing" "hire" "I", Cond.fieldLink RX6 51 "LanternHouse$Showing" "hireNumber" "I", Cond.methodLink RX6 70 yX7_cuesOf, Cond.instanceMethod yX7_cuesOf, Cond.selects RX7 yX7_cuesOf yX7_cuesOf, Cond.code yX7_cuesOf cX7_cuesOf 2 (some .int), Cond.fieldLink RX7 34 "LanternHouse$Shows" "text" "LLanternHouse$Lectures;", Cond.fieldLink RX7 49 "LanternHouse$Lectures" "cueCounts" "[I", Cond.fieldLink RX7 18 "LanternHouse$Shows" "lectures" "[I", Cond.methodLink RX6 74 yX3_slot, Cond.static yX3_slot, Cond.code yX3_slot cX3_slot 2 (some .int), Cond.methodLink RX6 93 yX6_findHire, Cond.instanceMethod yX6_findHire, Cond.selects RX6 yX6_findHire yX6_findHire, Cond.code yX6_findHire cX6_findHire 5 none, Cond.fieldLink RX6 97 "LanternHouse$Lectures" "hireCounts" "[I"]
def wsX11_showing_r4 : List Cond := [Cond.fieldLink RX6 100 "LanternHouse$Lectures" "code" "[I", Cond.fieldLink RX6 103 "LanternHouse$Lectures" "hireStarts" "[I", Cond.fieldLink RX6 106 "LanternHouse$Lectures" "hireEnds" "[I", Cond.fieldLink RX6 23 "LanternHouse$Showing" "values" "[I", Cond.methodLink RX6 109 yX6_holds, Cond.instanceMethod yX6_holds, Cond.selects RX6 yX6_holds yX6_holds, Cond.code yX6_holds cX6_holds 9 (some .boolean), Cond.methodLink RX6 113 yX10_isVar, Cond.static yX10_isVar, Cond.initialized RX10, Cond.code yX10_isVar cX10_isVar 1 (some .boolean), Cond.methodLink RX6 119 yX6_variable, Cond.instanceMethod yX6_variable, Cond.selects RX6 yX6_variable yX6_variable, Cond.code yX6_variable cX6_variable 2 (some .int), Cond.methodLink RX6 122 yX10_isRelation, Cond.static yX10_isRelation, Cond.code yX10_isRelation cX10_isRelation 1 (some .boolean), Cond.methodLink RX6 125 yX6_relates, Cond.static yX6_relates, Cond.code yX6_relates cX6_relates 3 (some .boolean), Cond.methodLink RX6 129 yX6_reckon, Cond.static yX6_reckon]
def wsX11_showing_r5 : List Cond := [Cond.code yX6_reckon cX6_reckon 3 (some .int)]
def wsX11_showing : List Cond := .code yX11_showing cX11_showing 3 (some .int) :: ((wsX11_showing_r1 ++ (wsX11_showing_r2 ++ (wsX11_showing_r3 ++ (wsX11_showing_r4 ++ wsX11_showing_r5)))) ++ wsX110 ++ wsX60 ++ wsX70 ++ wsX30 ++ wsX20)
def wsX11_blame_r1 : List Cond := [Cond.fieldLink RX11 95 "LanternHouse" "isMade" "Z", Cond.fieldLink RX11 49 "LanternHouse" "facts" "LLanternHouse$Facts;", Cond.fieldLink RX11 88 "LanternHouse" "made" "LLanternHouse$Plan;", Cond.fieldLink RX11 274 "LanternHouse$Facts" "times" "[I", Cond.fieldLink RX11 61 "LanternHouse" "shows" "LLanternHouse$Shows;", Cond.methodLink RX11 147 yX11_isPlate, Cond.instanceMethod yX11_isPlate, Cond.selects RX11 yX11_isPlate yX11_isPlate, Cond.initialized RX11, Cond.code yX11_isPlate cX11_isPlate 2 (some .boolean), Cond.fieldLink RX11 42 "LanternHouse" "stock" "LLanternHouse$Stock;", Cond.fieldLink RX11 287 "LanternHouse$Stock" "size" "I", Cond.methodLink RX11 160 yX0_isKnown, Cond.instanceMethod yX0_isKnown, Cond.selects RX0 yX0_isKnown yX0_isKnown, Cond.initialized RX0, Cond.code yX0_isKnown cX0_isKnown 2 (some .boolean), Cond.fieldLink RX0 26 "LanternHouse$Facts" "size" "I", Cond.methodLink RX11 268 yX0_firstBroken, Cond.instanceMethod yX0_firstBroken, Cond.selects RX0 yX0_firstBroken yX0_firstBroken, Cond.code yX0_firstBroken cX0_firstBroken 5 (some .int), Cond.fieldLink RX0 11 "LanternHouse$Facts" "sorts" "[I", Cond.fieldLink RX0 15 "LanternHouse$Facts" "subjects" "[I"]
def wsX11_blame_r2 : List Cond := [Cond.fieldLink RX0 18 "LanternHouse$Facts" "times" "[I", Cond.methodLink RX11 271 yX0_lastWhole, Cond.instanceMethod yX0_lastWhole, Cond.selects RX0 yX0_lastWhole yX0_lastWhole, Cond.code yX0_lastWhole cX0_lastWhole 6 (some .int), Cond.methodLink RX0 36 Lib.Math.max.name, Cond.static Lib.Math.max.name, Cond.initialized "java/lang/Math", Cond.code Lib.Math.max.name Lib.Math.max.code 2 (some .int), Cond.methodLink RX11 277 yX3_whatCame, Cond.instanceMethod yX3_whatCame, Cond.selects RX3 yX3_whatCame yX3_whatCame, Cond.initialized RX3, Cond.code yX3_whatCame cX3_whatCame 10 (some .int), Cond.fieldLink RX3 54 "LanternHouse$Shows" "size" "I", Cond.fieldLink RX3 19 "LanternHouse$Plan" "wayEnds" "[I", Cond.methodLink RX3 57 yX3_slotWith, Cond.instanceMethod yX3_slotWith, Cond.selects RX3 yX3_slotWith yX3_slotWith, Cond.code yX3_slotWith cX3_slotWith 5 (some .int), Cond.fieldLink RX3 13 "LanternHouse$Plan" "plates" "[I", Cond.methodLink RX3 42 yX3_has, Cond.instanceMethod yX3_has, Cond.selects RX3 yX3_has yX3_has]
def wsX11_blame_r3 : List Cond := [Cond.code yX3_has cX3_has 2 (some .boolean), Cond.fieldLink RX3 26 "LanternHouse$Plan" "set" "I", Cond.methodLink RX3 46 yX7_cuesOf, Cond.instanceMethod yX7_cuesOf, Cond.selects RX7 yX7_cuesOf yX7_cuesOf, Cond.initialized RX7, Cond.code yX7_cuesOf cX7_cuesOf 2 (some .int), Cond.fieldLink RX7 34 "LanternHouse$Shows" "text" "LLanternHouse$Lectures;", Cond.fieldLink RX7 49 "LanternHouse$Lectures" "cueCounts" "[I", Cond.fieldLink RX7 18 "LanternHouse$Shows" "lectures" "[I", Cond.methodLink RX3 50 yX3_slot, Cond.static yX3_slot, Cond.code yX3_slot cX3_slot 2 (some .int), Cond.methodLink RX3 61 yX7_shownHour, Cond.instanceMethod yX7_shownHour, Cond.selects RX7 yX7_shownHour yX7_shownHour, Cond.code yX7_shownHour cX7_shownHour 2 (some .int), Cond.fieldLink RX7 11 "LanternHouse$Shows" "nights" "[I"]
def wsX11_blame : List Cond := .code yX11_blame cX11_blame 4 (some .int) :: ((wsX11_blame_r1 ++ (wsX11_blame_r2 ++ wsX11_blame_r3)) ++ wsX110 ++ wsX00 ++ wsX80 ++ wsX70 ++ wsX30 ++ wsX20)
def wsX11_where_r1 : List Cond := [Cond.fieldLink RX11 95 "LanternHouse" "isMade" "Z", Cond.fieldLink RX11 88 "LanternHouse" "made" "LLanternHouse$Plan;", Cond.fieldLink RX11 61 "LanternHouse" "shows" "LLanternHouse$Shows;", Cond.methodLink RX11 147 yX11_isPlate, Cond.instanceMethod yX11_isPlate, Cond.selects RX11 yX11_isPlate yX11_isPlate, Cond.initialized RX11, Cond.code yX11_isPlate cX11_isPlate 2 (some .boolean), Cond.fieldLink RX11 42 "LanternHouse" "stock" "LLanternHouse$Stock;", Cond.fieldLink RX11 287 "LanternHouse$Stock" "size" "I", Cond.methodLink RX11 151 yX11_isHour, Cond.instanceMethod yX11_isHour, Cond.selects RX11 yX11_isHour yX11_isHour, Cond.code yX11_isHour cX11_isHour 2 (some .boolean), Cond.methodLink RX11 281 yX3_sentTo, Cond.instanceMethod yX3_sentTo, Cond.selects RX3 yX3_sentTo yX3_sentTo, Cond.initialized RX3, Cond.code yX3_sentTo cX3_sentTo 7 (some .int), Cond.fieldLink RX3 54 "LanternHouse$Shows" "size" "I", Cond.fieldLink RX3 64 "LanternHouse$Shows" "order" "[I", Cond.fieldLink RX3 70 "LanternHouse$Shows" "halls" "[I", Cond.methodLink RX3 67 yX7_dueHour, Cond.instanceMethod yX7_dueHour]
def wsX11_where_r2 : List Cond := [Cond.selects RX7 yX7_dueHour yX7_dueHour, Cond.initialized RX7, Cond.code yX7_dueHour cX7_dueHour 2 (some .int), Cond.fieldLink RX7 11 "LanternHouse$Shows" "nights" "[I", Cond.methodLink RX3 57 yX3_slotWith, Cond.instanceMethod yX3_slotWith, Cond.selects RX3 yX3_slotWith yX3_slotWith, Cond.code yX3_slotWith cX3_slotWith 5 (some .int), Cond.fieldLink RX3 13 "LanternHouse$Plan" "plates" "[I", Cond.methodLink RX3 42 yX3_has, Cond.instanceMethod yX3_has, Cond.selects RX3 yX3_has yX3_has, Cond.code yX3_has cX3_has 2 (some .boolean), Cond.fieldLink RX3 26 "LanternHouse$Plan" "set" "I", Cond.methodLink RX3 46 yX7_cuesOf, Cond.instanceMethod yX7_cuesOf, Cond.selects RX7 yX7_cuesOf yX7_cuesOf, Cond.code yX7_cuesOf cX7_cuesOf 2 (some .int), Cond.fieldLink RX7 34 "LanternHouse$Shows" "text" "LLanternHouse$Lectures;", Cond.fieldLink RX7 49 "LanternHouse$Lectures" "cueCounts" "[I", Cond.fieldLink RX7 18 "LanternHouse$Shows" "lectures" "[I", Cond.methodLink RX3 50 yX3_slot, Cond.static yX3_slot, Cond.code yX3_slot cX3_slot 2 (some .int)]
def wsX11_where : List Cond := .code yX11_where cX11_where 3 (some .int) :: ((wsX11_where_r1 ++ wsX11_where_r2) ++ wsX110 ++ wsX80 ++ wsX70 ++ wsX30 ++ wsX20)
def wsX11_count_r1 : List Cond := [Cond.fieldLink RX11 35 "LanternHouse" "rails" "LLanternHouse$Rails;", Cond.fieldLink RX11 285 "LanternHouse$Rails" "halls" "I", Cond.fieldLink RX11 141 "LanternHouse$Rails" "trains" "I", Cond.fieldLink RX11 42 "LanternHouse" "stock" "LLanternHouse$Stock;", Cond.fieldLink RX11 287 "LanternHouse$Stock" "size" "I", Cond.fieldLink RX11 49 "LanternHouse" "facts" "LLanternHouse$Facts;", Cond.fieldLink RX11 290 "LanternHouse$Facts" "size" "I", Cond.fieldLink RX11 61 "LanternHouse" "shows" "LLanternHouse$Shows;", Cond.fieldLink RX11 117 "LanternHouse$Shows" "text" "LLanternHouse$Lectures;", Cond.fieldLink RX11 291 "LanternHouse$Lectures" "size" "I", Cond.fieldLink RX11 292 "LanternHouse$Shows" "size" "I", Cond.fieldLink RX11 95 "LanternHouse" "isMade" "Z", Cond.fieldLink RX11 88 "LanternHouse" "made" "LLanternHouse$Plan;", Cond.fieldLink RX11 191 "LanternHouse$Plan" "set" "I", Cond.fieldLink RX11 298 "LanternHouse$Plan" "missed" "I", Cond.fieldLink RX11 299 "LanternHouse$Plan" "instead" "I", Cond.fieldLink RX11 10 "LanternHouse" "tape" "LLanternHouse$Tape;", Cond.fieldLink RX11 99 "LanternHouse$Tape" "length" "I", Cond.methodLink RX11 293 yJ6_bitCount_0f7a4, Cond.static yJ6_bitCount_0f7a4, Cond.initialized RJ6, Cond.code yJ6_bitCount_0f7a4 cJ6_bitCount_0f7a4 1 (some .int), Cond.constant RJ6 265 (1431655765), Cond.constant RJ6 266 (858993459)]
def wsX11_count_r2 : List Cond := [Cond.constant RJ6 267 (252645135)]
def wsX11_count : List Cond := .code yX11_count cX11_count 2 (some .int) :: ((wsX11_count_r1 ++ wsX11_count_r2) ++ wsX110 ++ wsX40 ++ wsX80 ++ wsX00 ++ wsX70 ++ wsX20 ++ wsX30 ++ wsX90)
def wsX12_more : List Cond := .code yX12_more cX12_more 3 (some .long) :: ([.constantLong RX12 214 (27)])
def wsX12_word : List Cond := .code yX12_word cX12_word 8 (some .long) :: ([.methodLink RX12 216 yX12_more, .static yX12_more, .initialized RX12, .code yX12_more cX12_more 3 (some .long), .constantLong RX12 214 (27)])
def wsX12_init_r1 : List Cond := [Cond.methodLink RX12 7 objectInit, Cond.instanceMethod objectInit, Cond.code objectInit ⟨#[0xb1]⟩ 1 none, Cond.arrayClass .byte, Cond.fieldLink RX12 13 "LanternHouseModel" "tape" "[B", Cond.fieldLink RX12 17 "LanternHouseModel" "text" "[B", Cond.arrayClass .int, Cond.fieldLink RX12 20 "LanternHouseModel" "tKind" "[I", Cond.fieldLink RX12 24 "LanternHouseModel" "tPlace" "[I", Cond.fieldLink RX12 27 "LanternHouseModel" "tValue" "[I", Cond.arrayClass .long, Cond.fieldLink RX12 30 "LanternHouseModel" "tName" "[J", Cond.fieldLink RX12 34 "LanternHouseModel" "keys" "[J", Cond.fieldLink RX12 37 "LanternHouseModel" "place" "I", Cond.fieldLink RX12 40 "LanternHouseModel" "lectures" "[I", Cond.fieldLink RX12 43 "LanternHouseModel" "lectName" "[J", Cond.fieldLink RX12 46 "LanternHouseModel" "cues" "[I", Cond.fieldLink RX12 49 "LanternHouseModel" "hires" "[I", Cond.arrayClass .boolean, Cond.fieldLink RX12 52 "LanternHouseModel" "cueMust" "[Z", Cond.fieldLink RX12 56 "LanternHouseModel" "cueKinds" "[I", Cond.fieldLink RX12 59 "LanternHouseModel" "cueKind" "[I", Cond.fieldLink RX12 62 "LanternHouseModel" "cueFor" "[I", Cond.fieldLink RX12 65 "LanternHouseModel" "cueFade" "[I"]
def wsX12_init_r2 : List Cond := [Cond.fieldLink RX12 68 "LanternHouseModel" "hireFrom" "[I", Cond.fieldLink RX12 71 "LanternHouseModel" "hireTo" "[I", Cond.fieldLink RX12 74 "LanternHouseModel" "hireFirst" "[I", Cond.fieldLink RX12 77 "LanternHouseModel" "hireLast" "[I", Cond.fieldLink RX12 80 "LanternHouseModel" "relations" "[I", Cond.fieldLink RX12 83 "LanternHouseModel" "relSort" "[I", Cond.fieldLink RX12 86 "LanternHouseModel" "relLeft" "[I", Cond.fieldLink RX12 89 "LanternHouseModel" "relRight" "[I", Cond.fieldLink RX12 92 "LanternHouseModel" "relEnd" "[I", Cond.fieldLink RX12 95 "LanternHouseModel" "code" "[I", Cond.fieldLink RX12 98 "LanternHouseModel" "codeInt" "[I", Cond.fieldLink RX12 101 "LanternHouseModel" "waits" "[I", Cond.fieldLink RX12 104 "LanternHouseModel" "trainFrom" "[I", Cond.fieldLink RX12 107 "LanternHouseModel" "trainTo" "[I", Cond.fieldLink RX12 110 "LanternHouseModel" "trainHour" "[I", Cond.fieldLink RX12 113 "LanternHouseModel" "trainTakes" "[I", Cond.fieldLink RX12 116 "LanternHouseModel" "kind" "[I", Cond.fieldLink RX12 119 "LanternHouseModel" "factSort" "[I", Cond.fieldLink RX12 122 "LanternHouseModel" "factOf" "[I", Cond.fieldLink RX12 125 "LanternHouseModel" "factAt" "[I", Cond.fieldLink RX12 128 "LanternHouseModel" "stillFor" "I", Cond.fieldLink RX12 131 "LanternHouseModel" "still" "[Z", Cond.fieldLink RX12 134 "LanternHouseModel" "soonest" "[I", Cond.fieldLink RX12 137 "LanternHouseModel" "night" "[I"]
def wsX12_init_r3 : List Cond := [Cond.fieldLink RX12 140 "LanternHouseModel" "where" "[I", Cond.fieldLink RX12 143 "LanternHouseModel" "lecture" "[I", Cond.fieldLink RX12 146 "LanternHouseModel" "gas" "[I", Cond.fieldLink RX12 149 "LanternHouseModel" "worth" "[I", Cond.fieldLink RX12 152 "LanternHouseModel" "gets" "[I", Cond.fieldLink RX12 155 "LanternHouseModel" "getsAs" "[I", Cond.fieldLink RX12 158 "LanternHouseModel" "getsFrom" "[I", Cond.fieldLink RX12 161 "LanternHouseModel" "getsAt" "[I", Cond.fieldLink RX12 164 "LanternHouseModel" "plateAt" "[I", Cond.fieldLink RX12 167 "LanternHouseModel" "plateFree" "[I", Cond.fieldLink RX12 170 "LanternHouseModel" "inShow" "[Z", Cond.fieldLink RX12 173 "LanternHouseModel" "madeGets" "[I", Cond.fieldLink RX12 176 "LanternHouseModel" "madeAs" "[I", Cond.fieldLink RX12 179 "LanternHouseModel" "madeFrom" "[I", Cond.fieldLink RX12 182 "LanternHouseModel" "madeAt" "[I", Cond.fieldLink RX12 185 "LanternHouseModel" "variables" "[I", Cond.fieldLink RX12 188 "LanternHouseModel" "begins" "[I", Cond.fieldLink RX12 191 "LanternHouseModel" "isShown" "[Z", Cond.fieldLink RX12 194 "LanternHouseModel" "pile" "[I", Cond.fieldLink RX12 201 "LanternHouseModel" "halls" "I", Cond.methodLink RX12 197 yX12_word, Cond.static yX12_word, Cond.initialized RX12, Cond.code yX12_word cX12_word 8 (some .long)]
def wsX12_init_r4 : List Cond := [Cond.methodLink RX12 216 yX12_more, Cond.static yX12_more, Cond.code yX12_more cX12_more 3 (some .long), Cond.constantLong RX12 214 (27)]
def wsX12_init : List Cond := .code yX12_init cX12_init 1 none :: ((wsX12_init_r1 ++ (wsX12_init_r2 ++ (wsX12_init_r3 ++ wsX12_init_r4))) ++ wsX120)
def wsX12_put : List Cond := .code yX12_put cX12_put 3 none :: ([.fieldLink RX12 13 "LanternHouseModel" "tape" "[B", .fieldLink RX12 204 "LanternHouseModel" "taped" "I"] ++ wsX120)
def wsX12_feed : List Cond := .code yX12_feed cX12_feed 6 (some .int) :: ([.fieldLink RX12 204 "LanternHouseModel" "taped" "I", .methodLink RX12 207 yX12_put, .instanceMethod yX12_put, .selects RX12 yX12_put yX12_put, .initialized RX12, .code yX12_put cX12_put 3 none, .fieldLink RX12 13 "LanternHouseModel" "tape" "[B"] ++ wsX120)
def wsX12_back : List Cond := .code yX12_back cX12_back 2 (some .int) :: ([.fieldLink RX12 204 "LanternHouseModel" "taped" "I"] ++ wsX120)
def wsX12_at : List Cond := .code yX12_at cX12_at 2 (some .int) :: ([.fieldLink RX12 211 "LanternHouseModel" "size" "I", .fieldLink RX12 17 "LanternHouseModel" "text" "[B"] ++ wsX120)
def wsX12_token : List Cond := .code yX12_token cX12_token 6 none :: ([.fieldLink RX12 20 "LanternHouseModel" "tKind" "[I", .fieldLink RX12 220 "LanternHouseModel" "tokens" "I", .fieldLink RX12 24 "LanternHouseModel" "tPlace" "[I", .fieldLink RX12 27 "LanternHouseModel" "tValue" "[I", .fieldLink RX12 30 "LanternHouseModel" "tName" "[J"] ++ wsX120)
def wsX12_cut_r1 : List Cond := [Cond.fieldLink RX12 220 "LanternHouseModel" "tokens" "I", Cond.fieldLink RX12 211 "LanternHouseModel" "size" "I", Cond.fieldLink RX12 34 "LanternHouseModel" "keys" "[J", Cond.methodLink RX12 223 yX12_at, Cond.instanceMethod yX12_at, Cond.selects RX12 yX12_at yX12_at, Cond.initialized RX12, Cond.code yX12_at cX12_at 2 (some .int), Cond.fieldLink RX12 17 "LanternHouseModel" "text" "[B", Cond.methodLink RX12 227 yX12_token, Cond.instanceMethod yX12_token, Cond.selects RX12 yX12_token yX12_token, Cond.code yX12_token cX12_token 6 none, Cond.fieldLink RX12 20 "LanternHouseModel" "tKind" "[I", Cond.fieldLink RX12 24 "LanternHouseModel" "tPlace" "[I", Cond.fieldLink RX12 27 "LanternHouseModel" "tValue" "[I", Cond.fieldLink RX12 30 "LanternHouseModel" "tName" "[J", Cond.methodLink RX12 231 yX12_isLetter, Cond.static yX12_isLetter, Cond.code yX12_isLetter cX12_isLetter 1 (some .boolean), Cond.methodLink RX12 216 yX12_more, Cond.static yX12_more, Cond.code yX12_more cX12_more 3 (some .long), Cond.constantLong RX12 214 (27)]
def wsX12_cut_r2 : List Cond := [Cond.methodLink RX12 235 yX12_isDigit, Cond.static yX12_isDigit, Cond.code yX12_isDigit cX12_isDigit 1 (some .boolean), Cond.methodLink RX12 238 yX12_sign, Cond.instanceMethod yX12_sign, Cond.selects RX12 yX12_sign yX12_sign, Cond.code yX12_sign cX12_sign 6 (some .int)]
def wsX12_cut : List Cond := .code yX12_cut cX12_cut 8 none :: ((wsX12_cut_r1 ++ wsX12_cut_r2) ++ wsX120)
def wsX12_is : List Cond := .code yX12_is cX12_is 2 (some .boolean) :: ([.fieldLink RX12 242 "LanternHouseModel" "fault" "I", .fieldLink RX12 20 "LanternHouseModel" "tKind" "[I", .fieldLink RX12 245 "LanternHouseModel" "t" "I"] ++ wsX120)
def wsX12_read_r1 : List Cond := [Cond.fieldLink RX12 204 "LanternHouseModel" "taped" "I", Cond.fieldLink RX12 211 "LanternHouseModel" "size" "I", Cond.fieldLink RX12 17 "LanternHouseModel" "text" "[B", Cond.fieldLink RX12 13 "LanternHouseModel" "tape" "[B", Cond.fieldLink RX12 245 "LanternHouseModel" "t" "I", Cond.fieldLink RX12 269 "LanternHouseModel" "open" "I", Cond.fieldLink RX12 242 "LanternHouseModel" "fault" "I", Cond.fieldLink RX12 251 "LanternHouseModel" "worst" "I", Cond.fieldLink RX12 272 "LanternHouseModel" "live" "I", Cond.fieldLink RX12 275 "LanternHouseModel" "side" "I", Cond.fieldLink RX12 40 "LanternHouseModel" "lectures" "[I", Cond.fieldLink RX12 80 "LanternHouseModel" "relations" "[I", Cond.fieldLink RX12 278 "LanternHouseModel" "codes" "I", Cond.fieldLink RX12 248 "LanternHouseModel" "faultPlace" "I", Cond.fieldLink RX12 254 "LanternHouseModel" "worstPlace" "I", Cond.fieldLink RX12 37 "LanternHouseModel" "place" "I", Cond.fieldLink RX12 284 "LanternHouseModel" "shows" "I", Cond.fieldLink RX12 287 "LanternHouseModel" "isMade" "Z", Cond.methodLink RX12 266 yX12_cut, Cond.instanceMethod yX12_cut, Cond.selects RX12 yX12_cut yX12_cut, Cond.initialized RX12, Cond.code yX12_cut cX12_cut 8 none, Cond.fieldLink RX12 220 "LanternHouseModel" "tokens" "I"]
def wsX12_read_r2 : List Cond := [Cond.fieldLink RX12 34 "LanternHouseModel" "keys" "[J", Cond.methodLink RX12 223 yX12_at, Cond.instanceMethod yX12_at, Cond.selects RX12 yX12_at yX12_at, Cond.code yX12_at cX12_at 2 (some .int), Cond.methodLink RX12 227 yX12_token, Cond.instanceMethod yX12_token, Cond.selects RX12 yX12_token yX12_token, Cond.code yX12_token cX12_token 6 none, Cond.fieldLink RX12 20 "LanternHouseModel" "tKind" "[I", Cond.fieldLink RX12 24 "LanternHouseModel" "tPlace" "[I", Cond.fieldLink RX12 27 "LanternHouseModel" "tValue" "[I", Cond.fieldLink RX12 30 "LanternHouseModel" "tName" "[J", Cond.methodLink RX12 231 yX12_isLetter, Cond.static yX12_isLetter, Cond.code yX12_isLetter cX12_isLetter 1 (some .boolean), Cond.methodLink RX12 216 yX12_more, Cond.static yX12_more, Cond.code yX12_more cX12_more 3 (some .long), Cond.constantLong RX12 214 (27), Cond.methodLink RX12 235 yX12_isDigit, Cond.static yX12_isDigit, Cond.code yX12_isDigit cX12_isDigit 1 (some .boolean), Cond.methodLink RX12 238 yX12_sign]
def wsX12_read_r3 : List Cond := [Cond.instanceMethod yX12_sign, Cond.selects RX12 yX12_sign yX12_sign, Cond.code yX12_sign cX12_sign 6 (some .int), Cond.methodLink RX12 260 yX12_is, Cond.instanceMethod yX12_is, Cond.selects RX12 yX12_is yX12_is, Cond.code yX12_is cX12_is 2 (some .boolean), Cond.methodLink RX12 281 yX12_tellLecture, Cond.instanceMethod yX12_tellLecture, Cond.selects RX12 yX12_tellLecture yX12_tellLecture, Cond.code yX12_tellLecture cX12_tellLecture 4 none, Cond.fieldLink RX12 43 "LanternHouseModel" "lectName" "[J", Cond.fieldLink RX12 46 "LanternHouseModel" "cues" "[I", Cond.fieldLink RX12 49 "LanternHouseModel" "hires" "[I", Cond.methodLink RX12 257 yX12_fail, Cond.instanceMethod yX12_fail, Cond.selects RX12 yX12_fail yX12_fail, Cond.code yX12_fail cX12_fail 2 none, Cond.methodLink RX12 291 yX12_must, Cond.instanceMethod yX12_must, Cond.selects RX12 yX12_must yX12_must, Cond.code yX12_must cX12_must 2 none, Cond.methodLink RX12 263 yX12_next, Cond.instanceMethod yX12_next]
def wsX12_read_r4 : List Cond := [Cond.selects RX12 yX12_next yX12_next, Cond.code yX12_next cX12_next 1 none, Cond.methodLink RX12 294 yX12_wrong, Cond.instanceMethod yX12_wrong, Cond.selects RX12 yX12_wrong yX12_wrong, Cond.code yX12_wrong cX12_wrong 4 none, Cond.methodLink RX12 298 yX12_tellCue, Cond.instanceMethod yX12_tellCue, Cond.selects RX12 yX12_tellCue yX12_tellCue, Cond.code yX12_tellCue cX12_tellCue 7 none, Cond.fieldLink RX12 52 "LanternHouseModel" "cueMust" "[Z", Cond.fieldLink RX12 56 "LanternHouseModel" "cueKinds" "[I", Cond.fieldLink RX12 59 "LanternHouseModel" "cueKind" "[I", Cond.fieldLink RX12 62 "LanternHouseModel" "cueFor" "[I", Cond.fieldLink RX12 65 "LanternHouseModel" "cueFade" "[I", Cond.methodLink RX12 301 yX12_tellHire, Cond.instanceMethod yX12_tellHire, Cond.selects RX12 yX12_tellHire yX12_tellHire, Cond.code yX12_tellHire cX12_tellHire 3 none, Cond.fieldLink RX12 68 "LanternHouseModel" "hireFrom" "[I", Cond.fieldLink RX12 71 "LanternHouseModel" "hireTo" "[I", Cond.fieldLink RX12 74 "LanternHouseModel" "hireFirst" "[I", Cond.fieldLink RX12 77 "LanternHouseModel" "hireLast" "[I", Cond.methodLink RX12 304 yX12_expression]
def wsX12_read_r5 : List Cond := [Cond.instanceMethod yX12_expression, Cond.selects RX12 yX12_expression yX12_expression, Cond.code yX12_expression cX12_expression 5 none, Cond.fieldLink RX12 310 "LanternHouseModel" "waiting" "I", Cond.fieldLink RX12 101 "LanternHouseModel" "waits" "[I", Cond.methodLink RX12 313 yX12_emit, Cond.instanceMethod yX12_emit, Cond.selects RX12 yX12_emit yX12_emit, Cond.code yX12_emit cX12_emit 3 none, Cond.fieldLink RX12 95 "LanternHouseModel" "code" "[I", Cond.fieldLink RX12 98 "LanternHouseModel" "codeInt" "[I", Cond.methodLink RX12 316 yX12_comesOut, Cond.instanceMethod yX12_comesOut, Cond.selects RX12 yX12_comesOut yX12_comesOut, Cond.code yX12_comesOut cX12_comesOut 3 none, Cond.methodLink RX12 307 yX12_relation, Cond.instanceMethod yX12_relation, Cond.selects RX12 yX12_relation yX12_relation, Cond.code yX12_relation cX12_relation 5 none, Cond.fieldLink RX12 83 "LanternHouseModel" "relSort" "[I", Cond.fieldLink RX12 86 "LanternHouseModel" "relLeft" "[I", Cond.fieldLink RX12 89 "LanternHouseModel" "relRight" "[I", Cond.fieldLink RX12 92 "LanternHouseModel" "relEnd" "[I"]
def wsX12_read : List Cond := .code yX12_read cX12_read 2 (some .int) :: ((wsX12_read_r1 ++ (wsX12_read_r2 ++ (wsX12_read_r3 ++ (wsX12_read_r4 ++ wsX12_read_r5)))) ++ wsX120)
def wsX12_place : List Cond := .code yX12_place cX12_place 1 (some .int) :: ([.fieldLink RX12 37 "LanternHouseModel" "place" "I"] ++ wsX120)
def wsX12_isHall : List Cond := .code yX12_isHall cX12_isHall 2 (some .boolean) :: ([.fieldLink RX12 201 "LanternHouseModel" "halls" "I"] ++ wsX120)
def wsX12_isPlate : List Cond := .code yX12_isPlate cX12_isPlate 2 (some .boolean) :: ([.fieldLink RX12 320 "LanternHouseModel" "plates" "I"] ++ wsX120)
def wsX12_isHour : List Cond := .code yX12_isHour cX12_isHour 1 (some .boolean) :: ([])
def wsX12_isKnown : List Cond := .code yX12_isKnown cX12_isKnown 2 (some .boolean) :: ([.fieldLink RX12 323 "LanternHouseModel" "facts" "I"] ++ wsX120)
def wsX12_hall : List Cond := .code yX12_hall cX12_hall 1 (some .int) :: ([.fieldLink RX12 201 "LanternHouseModel" "halls" "I"] ++ wsX120)
def wsX12_train : List Cond := .code yX12_train cX12_train 5 (some .int) :: ([.fieldLink RX12 326 "LanternHouseModel" "trains" "I", .fieldLink RX12 104 "LanternHouseModel" "trainFrom" "[I", .fieldLink RX12 107 "LanternHouseModel" "trainTo" "[I", .fieldLink RX12 110 "LanternHouseModel" "trainHour" "[I", .fieldLink RX12 113 "LanternHouseModel" "trainTakes" "[I", .methodLink RX12 329 yX12_isHall, .instanceMethod yX12_isHall, .selects RX12 yX12_isHall yX12_isHall, .initialized RX12, .code yX12_isHall cX12_isHall 2 (some .boolean), .fieldLink RX12 201 "LanternHouseModel" "halls" "I"] ++ wsX120)
def wsX12_plate : List Cond := .code yX12_plate cX12_plate 2 (some .int) :: ([.fieldLink RX12 320 "LanternHouseModel" "plates" "I", .fieldLink RX12 116 "LanternHouseModel" "kind" "[I"] ++ wsX120)
def wsX12_cleaning : List Cond := .code yX12_cleaning cX12_cleaning 2 (some .boolean) :: ([.fieldLink RX12 332 "LanternHouseModel" "cleaning" "I"] ++ wsX120)
def wsX12_cancel : List Cond := .code yX12_cancel cX12_cancel 3 (some .int) :: ([.fieldLink RX12 323 "LanternHouseModel" "facts" "I", .fieldLink RX12 326 "LanternHouseModel" "trains" "I", .methodLink RX12 335 yX12_fact, .instanceMethod yX12_fact, .selects RX12 yX12_fact yX12_fact, .initialized RX12, .code yX12_fact cX12_fact 4 (some .int), .fieldLink RX12 119 "LanternHouseModel" "factSort" "[I", .fieldLink RX12 122 "LanternHouseModel" "factOf" "[I", .fieldLink RX12 125 "LanternHouseModel" "factAt" "[I"] ++ wsX120)
def wsX12_look : List Cond := .code yX12_look cX12_look 4 (some .int) :: ([.fieldLink RX12 323 "LanternHouseModel" "facts" "I", .methodLink RX12 338 yX12_isPlate, .instanceMethod yX12_isPlate, .selects RX12 yX12_isPlate yX12_isPlate, .initialized RX12, .code yX12_isPlate cX12_isPlate 2 (some .boolean), .fieldLink RX12 320 "LanternHouseModel" "plates" "I", .methodLink RX12 341 yX12_isHour, .static yX12_isHour, .code yX12_isHour cX12_isHour 1 (some .boolean), .methodLink RX12 335 yX12_fact, .instanceMethod yX12_fact, .selects RX12 yX12_fact yX12_fact, .code yX12_fact cX12_fact 4 (some .int), .fieldLink RX12 119 "LanternHouseModel" "factSort" "[I", .fieldLink RX12 122 "LanternHouseModel" "factOf" "[I", .fieldLink RX12 125 "LanternHouseModel" "factAt" "[I"] ++ wsX120)
def wsX12_broken : List Cond := .code yX12_broken cX12_broken 4 (some .int) :: ([.methodLink RX12 338 yX12_isPlate, .instanceMethod yX12_isPlate, .selects RX12 yX12_isPlate yX12_isPlate, .initialized RX12, .code yX12_isPlate cX12_isPlate 2 (some .boolean), .fieldLink RX12 320 "LanternHouseModel" "plates" "I", .methodLink RX12 341 yX12_isHour, .static yX12_isHour, .code yX12_isHour cX12_isHour 1 (some .boolean), .methodLink RX12 344 yX12_isKnown, .instanceMethod yX12_isKnown, .selects RX12 yX12_isKnown yX12_isKnown, .code yX12_isKnown cX12_isKnown 2 (some .boolean), .fieldLink RX12 323 "LanternHouseModel" "facts" "I", .methodLink RX12 347 yX12_isBroken, .instanceMethod yX12_isBroken, .selects RX12 yX12_isBroken yX12_isBroken, .code yX12_isBroken cX12_isBroken 6 (some .boolean), .fieldLink RX12 119 "LanternHouseModel" "factSort" "[I", .fieldLink RX12 122 "LanternHouseModel" "factOf" "[I", .fieldLink RX12 125 "LanternHouseModel" "factAt" "[I"] ++ wsX120)
def wsX12_knows : List Cond := .code yX12_knows cX12_knows 3 none :: ([.fieldLink RX12 128 "LanternHouseModel" "stillFor" "I", .fieldLink RX12 131 "LanternHouseModel" "still" "[Z", .fieldLink RX12 119 "LanternHouseModel" "factSort" "[I", .fieldLink RX12 122 "LanternHouseModel" "factOf" "[I", .fieldLink RX12 125 "LanternHouseModel" "factAt" "[I"] ++ wsX120)
def wsX12_wayTo : List Cond := .code yX12_wayTo cX12_wayTo 8 (some .int) :: ([.fieldLink RX12 134 "LanternHouseModel" "soonest" "[I", .constant RX12 351 (1000000), .fieldLink RX12 326 "LanternHouseModel" "trains" "I", .fieldLink RX12 104 "LanternHouseModel" "trainFrom" "[I", .fieldLink RX12 107 "LanternHouseModel" "trainTo" "[I", .methodLink RX12 352 yX12_comesBy, .instanceMethod yX12_comesBy, .selects RX12 yX12_comesBy yX12_comesBy, .initialized RX12, .code yX12_comesBy cX12_comesBy 5 (some .int), .fieldLink RX12 110 "LanternHouseModel" "trainHour" "[I", .fieldLink RX12 131 "LanternHouseModel" "still" "[Z", .fieldLink RX12 113 "LanternHouseModel" "trainTakes" "[I"] ++ wsX120)
def wsX12_way_r1 : List Cond := [Cond.constant RX12 351 (1000000), Cond.methodLink RX12 329 yX12_isHall, Cond.instanceMethod yX12_isHall, Cond.selects RX12 yX12_isHall yX12_isHall, Cond.initialized RX12, Cond.code yX12_isHall cX12_isHall 2 (some .boolean), Cond.fieldLink RX12 201 "LanternHouseModel" "halls" "I", Cond.methodLink RX12 341 yX12_isHour, Cond.static yX12_isHour, Cond.code yX12_isHour cX12_isHour 1 (some .boolean), Cond.methodLink RX12 344 yX12_isKnown, Cond.instanceMethod yX12_isKnown, Cond.selects RX12 yX12_isKnown yX12_isKnown, Cond.code yX12_isKnown cX12_isKnown 2 (some .boolean), Cond.fieldLink RX12 323 "LanternHouseModel" "facts" "I", Cond.methodLink RX12 355 yX12_knows, Cond.instanceMethod yX12_knows, Cond.selects RX12 yX12_knows yX12_knows, Cond.code yX12_knows cX12_knows 3 none, Cond.fieldLink RX12 128 "LanternHouseModel" "stillFor" "I", Cond.fieldLink RX12 131 "LanternHouseModel" "still" "[Z", Cond.fieldLink RX12 119 "LanternHouseModel" "factSort" "[I", Cond.fieldLink RX12 122 "LanternHouseModel" "factOf" "[I", Cond.fieldLink RX12 125 "LanternHouseModel" "factAt" "[I"]
def wsX12_way_r2 : List Cond := [Cond.methodLink RX12 358 yX12_wayTo, Cond.instanceMethod yX12_wayTo, Cond.selects RX12 yX12_wayTo yX12_wayTo, Cond.code yX12_wayTo cX12_wayTo 8 (some .int), Cond.fieldLink RX12 134 "LanternHouseModel" "soonest" "[I", Cond.fieldLink RX12 326 "LanternHouseModel" "trains" "I", Cond.fieldLink RX12 104 "LanternHouseModel" "trainFrom" "[I", Cond.fieldLink RX12 107 "LanternHouseModel" "trainTo" "[I", Cond.methodLink RX12 352 yX12_comesBy, Cond.instanceMethod yX12_comesBy, Cond.selects RX12 yX12_comesBy yX12_comesBy, Cond.code yX12_comesBy cX12_comesBy 5 (some .int), Cond.fieldLink RX12 110 "LanternHouseModel" "trainHour" "[I", Cond.fieldLink RX12 113 "LanternHouseModel" "trainTakes" "[I"]
def wsX12_way : List Cond := .code yX12_way cX12_way 6 (some .int) :: ((wsX12_way_r1 ++ wsX12_way_r2) ++ wsX120)
def wsX12_show : List Cond := .code yX12_show cX12_show 7 (some .int) :: ([.fieldLink RX12 284 "LanternHouseModel" "shows" "I", .fieldLink RX12 40 "LanternHouseModel" "lectures" "[I", .fieldLink RX12 272 "LanternHouseModel" "live" "I", .fieldLink RX12 137 "LanternHouseModel" "night" "[I", .fieldLink RX12 140 "LanternHouseModel" "where" "[I", .fieldLink RX12 143 "LanternHouseModel" "lecture" "[I", .fieldLink RX12 146 "LanternHouseModel" "gas" "[I", .fieldLink RX12 149 "LanternHouseModel" "worth" "[I", .methodLink RX12 329 yX12_isHall, .instanceMethod yX12_isHall, .selects RX12 yX12_isHall yX12_isHall, .initialized RX12, .code yX12_isHall cX12_isHall 2 (some .boolean), .fieldLink RX12 201 "LanternHouseModel" "halls" "I"] ++ wsX120)
def wsX12_keeps_r1 : List Cond := [Cond.fieldLink RX12 361 "LanternHouseModel" "missed" "I", Cond.fieldLink RX12 364 "LanternHouseModel" "instead" "I", Cond.fieldLink RX12 320 "LanternHouseModel" "plates" "I", Cond.fieldLink RX12 164 "LanternHouseModel" "plateAt" "[I", Cond.fieldLink RX12 167 "LanternHouseModel" "plateFree" "[I", Cond.fieldLink RX12 284 "LanternHouseModel" "shows" "I", Cond.fieldLink RX12 137 "LanternHouseModel" "night" "[I", Cond.methodLink RX12 367 yX12_keepsShow, Cond.instanceMethod yX12_keepsShow, Cond.selects RX12 yX12_keepsShow yX12_keepsShow, Cond.initialized RX12, Cond.code yX12_keepsShow cX12_keepsShow 7 (some .boolean), Cond.fieldLink RX12 272 "LanternHouseModel" "live" "I", Cond.fieldLink RX12 143 "LanternHouseModel" "lecture" "[I", Cond.fieldLink RX12 170 "LanternHouseModel" "inShow" "[Z", Cond.fieldLink RX12 46 "LanternHouseModel" "cues" "[I", Cond.fieldLink RX12 152 "LanternHouseModel" "gets" "[I", Cond.fieldLink RX12 56 "LanternHouseModel" "cueKinds" "[I", Cond.fieldLink RX12 59 "LanternHouseModel" "cueKind" "[I", Cond.fieldLink RX12 52 "LanternHouseModel" "cueMust" "[Z", Cond.fieldLink RX12 155 "LanternHouseModel" "getsAs" "[I", Cond.fieldLink RX12 140 "LanternHouseModel" "where" "[I", Cond.fieldLink RX12 332 "LanternHouseModel" "cleaning" "I", Cond.methodLink RX12 371 yX12_takes]
def wsX12_keeps_r2 : List Cond := [Cond.instanceMethod yX12_takes, Cond.selects RX12 yX12_takes yX12_takes, Cond.code yX12_takes cX12_takes 9 none, Cond.fieldLink RX12 116 "LanternHouseModel" "kind" "[I", Cond.fieldLink RX12 158 "LanternHouseModel" "getsFrom" "[I", Cond.fieldLink RX12 161 "LanternHouseModel" "getsAt" "[I", Cond.methodLink RX12 347 yX12_isBroken, Cond.instanceMethod yX12_isBroken, Cond.selects RX12 yX12_isBroken yX12_isBroken, Cond.code yX12_isBroken cX12_isBroken 6 (some .boolean), Cond.fieldLink RX12 119 "LanternHouseModel" "factSort" "[I", Cond.fieldLink RX12 122 "LanternHouseModel" "factOf" "[I", Cond.fieldLink RX12 125 "LanternHouseModel" "factAt" "[I", Cond.methodLink RX12 358 yX12_wayTo, Cond.instanceMethod yX12_wayTo, Cond.selects RX12 yX12_wayTo yX12_wayTo, Cond.code yX12_wayTo cX12_wayTo 8 (some .int), Cond.fieldLink RX12 134 "LanternHouseModel" "soonest" "[I", Cond.constant RX12 351 (1000000), Cond.fieldLink RX12 326 "LanternHouseModel" "trains" "I", Cond.fieldLink RX12 104 "LanternHouseModel" "trainFrom" "[I", Cond.fieldLink RX12 107 "LanternHouseModel" "trainTo" "[I", Cond.methodLink RX12 352 yX12_comesBy, Cond.instanceMethod yX12_comesBy]
def wsX12_keeps_r3 : List Cond := [Cond.selects RX12 yX12_comesBy yX12_comesBy, Cond.code yX12_comesBy cX12_comesBy 5 (some .int), Cond.fieldLink RX12 110 "LanternHouseModel" "trainHour" "[I", Cond.fieldLink RX12 131 "LanternHouseModel" "still" "[Z", Cond.fieldLink RX12 113 "LanternHouseModel" "trainTakes" "[I"]
def wsX12_keeps : List Cond := .code yX12_keeps cX12_keeps 5 (some .boolean) :: ((wsX12_keeps_r1 ++ (wsX12_keeps_r2 ++ wsX12_keeps_r3)) ++ wsX120)
def wsX12_worthOf : List Cond := .code yX12_worthOf cX12_worthOf 4 (some .int) :: ([.fieldLink RX12 284 "LanternHouseModel" "shows" "I", .fieldLink RX12 149 "LanternHouseModel" "worth" "[I"] ++ wsX120)
def wsX12_can_r1 : List Cond := [Cond.fieldLink RX12 284 "LanternHouseModel" "shows" "I", Cond.methodLink RX12 344 yX12_isKnown, Cond.instanceMethod yX12_isKnown, Cond.selects RX12 yX12_isKnown yX12_isKnown, Cond.initialized RX12, Cond.code yX12_isKnown cX12_isKnown 2 (some .boolean), Cond.fieldLink RX12 323 "LanternHouseModel" "facts" "I", Cond.methodLink RX12 355 yX12_knows, Cond.instanceMethod yX12_knows, Cond.selects RX12 yX12_knows yX12_knows, Cond.code yX12_knows cX12_knows 3 none, Cond.fieldLink RX12 128 "LanternHouseModel" "stillFor" "I", Cond.fieldLink RX12 131 "LanternHouseModel" "still" "[Z", Cond.fieldLink RX12 119 "LanternHouseModel" "factSort" "[I", Cond.fieldLink RX12 122 "LanternHouseModel" "factOf" "[I", Cond.fieldLink RX12 125 "LanternHouseModel" "factAt" "[I", Cond.methodLink RX12 375 yX12_keeps, Cond.instanceMethod yX12_keeps, Cond.selects RX12 yX12_keeps yX12_keeps, Cond.code yX12_keeps cX12_keeps 5 (some .boolean), Cond.fieldLink RX12 361 "LanternHouseModel" "missed" "I", Cond.fieldLink RX12 364 "LanternHouseModel" "instead" "I", Cond.fieldLink RX12 320 "LanternHouseModel" "plates" "I", Cond.fieldLink RX12 164 "LanternHouseModel" "plateAt" "[I"]
def wsX12_can_r2 : List Cond := [Cond.fieldLink RX12 167 "LanternHouseModel" "plateFree" "[I", Cond.fieldLink RX12 137 "LanternHouseModel" "night" "[I", Cond.methodLink RX12 367 yX12_keepsShow, Cond.instanceMethod yX12_keepsShow, Cond.selects RX12 yX12_keepsShow yX12_keepsShow, Cond.code yX12_keepsShow cX12_keepsShow 7 (some .boolean), Cond.fieldLink RX12 272 "LanternHouseModel" "live" "I", Cond.fieldLink RX12 143 "LanternHouseModel" "lecture" "[I", Cond.fieldLink RX12 170 "LanternHouseModel" "inShow" "[Z", Cond.fieldLink RX12 46 "LanternHouseModel" "cues" "[I", Cond.fieldLink RX12 152 "LanternHouseModel" "gets" "[I", Cond.fieldLink RX12 56 "LanternHouseModel" "cueKinds" "[I", Cond.fieldLink RX12 59 "LanternHouseModel" "cueKind" "[I", Cond.fieldLink RX12 52 "LanternHouseModel" "cueMust" "[Z", Cond.fieldLink RX12 155 "LanternHouseModel" "getsAs" "[I", Cond.fieldLink RX12 140 "LanternHouseModel" "where" "[I", Cond.fieldLink RX12 332 "LanternHouseModel" "cleaning" "I", Cond.methodLink RX12 371 yX12_takes, Cond.instanceMethod yX12_takes, Cond.selects RX12 yX12_takes yX12_takes, Cond.code yX12_takes cX12_takes 9 none, Cond.fieldLink RX12 116 "LanternHouseModel" "kind" "[I", Cond.fieldLink RX12 158 "LanternHouseModel" "getsFrom" "[I", Cond.fieldLink RX12 161 "LanternHouseModel" "getsAt" "[I"]
def wsX12_can_r3 : List Cond := [Cond.methodLink RX12 347 yX12_isBroken, Cond.instanceMethod yX12_isBroken, Cond.selects RX12 yX12_isBroken yX12_isBroken, Cond.code yX12_isBroken cX12_isBroken 6 (some .boolean), Cond.methodLink RX12 358 yX12_wayTo, Cond.instanceMethod yX12_wayTo, Cond.selects RX12 yX12_wayTo yX12_wayTo, Cond.code yX12_wayTo cX12_wayTo 8 (some .int), Cond.fieldLink RX12 134 "LanternHouseModel" "soonest" "[I", Cond.constant RX12 351 (1000000), Cond.fieldLink RX12 326 "LanternHouseModel" "trains" "I", Cond.fieldLink RX12 104 "LanternHouseModel" "trainFrom" "[I", Cond.fieldLink RX12 107 "LanternHouseModel" "trainTo" "[I", Cond.methodLink RX12 352 yX12_comesBy, Cond.instanceMethod yX12_comesBy, Cond.selects RX12 yX12_comesBy yX12_comesBy, Cond.code yX12_comesBy cX12_comesBy 5 (some .int), Cond.fieldLink RX12 110 "LanternHouseModel" "trainHour" "[I", Cond.fieldLink RX12 113 "LanternHouseModel" "trainTakes" "[I", Cond.methodLink RX12 378 yX12_worthOf, Cond.instanceMethod yX12_worthOf, Cond.selects RX12 yX12_worthOf yX12_worthOf, Cond.code yX12_worthOf cX12_worthOf 4 (some .int), Cond.fieldLink RX12 149 "LanternHouseModel" "worth" "[I"]
def wsX12_can : List Cond := .code yX12_can cX12_can 3 (some .int) :: ((wsX12_can_r1 ++ (wsX12_can_r2 ++ wsX12_can_r3)) ++ wsX120)
def wsX12_makes_r1 : List Cond := [Cond.fieldLink RX12 284 "LanternHouseModel" "shows" "I", Cond.fieldLink RX12 361 "LanternHouseModel" "missed" "I", Cond.fieldLink RX12 364 "LanternHouseModel" "instead" "I", Cond.fieldLink RX12 385 "LanternHouseModel" "made" "I", Cond.fieldLink RX12 287 "LanternHouseModel" "isMade" "Z", Cond.fieldLink RX12 388 "LanternHouseModel" "madeMissed" "I", Cond.fieldLink RX12 391 "LanternHouseModel" "madeInstead" "I", Cond.fieldLink RX12 173 "LanternHouseModel" "madeGets" "[I", Cond.fieldLink RX12 152 "LanternHouseModel" "gets" "[I", Cond.fieldLink RX12 176 "LanternHouseModel" "madeAs" "[I", Cond.fieldLink RX12 155 "LanternHouseModel" "getsAs" "[I", Cond.fieldLink RX12 179 "LanternHouseModel" "madeFrom" "[I", Cond.fieldLink RX12 158 "LanternHouseModel" "getsFrom" "[I", Cond.fieldLink RX12 182 "LanternHouseModel" "madeAt" "[I", Cond.fieldLink RX12 161 "LanternHouseModel" "getsAt" "[I", Cond.methodLink RX12 355 yX12_knows, Cond.instanceMethod yX12_knows, Cond.selects RX12 yX12_knows yX12_knows, Cond.initialized RX12, Cond.code yX12_knows cX12_knows 3 none, Cond.fieldLink RX12 128 "LanternHouseModel" "stillFor" "I", Cond.fieldLink RX12 131 "LanternHouseModel" "still" "[Z", Cond.fieldLink RX12 119 "LanternHouseModel" "factSort" "[I", Cond.fieldLink RX12 122 "LanternHouseModel" "factOf" "[I"]
def wsX12_makes_r2 : List Cond := [Cond.fieldLink RX12 125 "LanternHouseModel" "factAt" "[I", Cond.methodLink RX12 378 yX12_worthOf, Cond.instanceMethod yX12_worthOf, Cond.selects RX12 yX12_worthOf yX12_worthOf, Cond.code yX12_worthOf cX12_worthOf 4 (some .int), Cond.fieldLink RX12 149 "LanternHouseModel" "worth" "[I", Cond.methodLink RX12 375 yX12_keeps, Cond.instanceMethod yX12_keeps, Cond.selects RX12 yX12_keeps yX12_keeps, Cond.code yX12_keeps cX12_keeps 5 (some .boolean), Cond.fieldLink RX12 320 "LanternHouseModel" "plates" "I", Cond.fieldLink RX12 164 "LanternHouseModel" "plateAt" "[I", Cond.fieldLink RX12 167 "LanternHouseModel" "plateFree" "[I", Cond.fieldLink RX12 137 "LanternHouseModel" "night" "[I", Cond.methodLink RX12 367 yX12_keepsShow, Cond.instanceMethod yX12_keepsShow, Cond.selects RX12 yX12_keepsShow yX12_keepsShow, Cond.code yX12_keepsShow cX12_keepsShow 7 (some .boolean), Cond.fieldLink RX12 272 "LanternHouseModel" "live" "I", Cond.fieldLink RX12 143 "LanternHouseModel" "lecture" "[I", Cond.fieldLink RX12 170 "LanternHouseModel" "inShow" "[Z", Cond.fieldLink RX12 46 "LanternHouseModel" "cues" "[I", Cond.fieldLink RX12 56 "LanternHouseModel" "cueKinds" "[I", Cond.fieldLink RX12 59 "LanternHouseModel" "cueKind" "[I"]
def wsX12_makes_r3 : List Cond := [Cond.fieldLink RX12 52 "LanternHouseModel" "cueMust" "[Z", Cond.fieldLink RX12 140 "LanternHouseModel" "where" "[I", Cond.fieldLink RX12 332 "LanternHouseModel" "cleaning" "I", Cond.methodLink RX12 371 yX12_takes, Cond.instanceMethod yX12_takes, Cond.selects RX12 yX12_takes yX12_takes, Cond.code yX12_takes cX12_takes 9 none, Cond.fieldLink RX12 116 "LanternHouseModel" "kind" "[I", Cond.methodLink RX12 347 yX12_isBroken, Cond.instanceMethod yX12_isBroken, Cond.selects RX12 yX12_isBroken yX12_isBroken, Cond.code yX12_isBroken cX12_isBroken 6 (some .boolean), Cond.methodLink RX12 358 yX12_wayTo, Cond.instanceMethod yX12_wayTo, Cond.selects RX12 yX12_wayTo yX12_wayTo, Cond.code yX12_wayTo cX12_wayTo 8 (some .int), Cond.fieldLink RX12 134 "LanternHouseModel" "soonest" "[I", Cond.constant RX12 351 (1000000), Cond.fieldLink RX12 326 "LanternHouseModel" "trains" "I", Cond.fieldLink RX12 104 "LanternHouseModel" "trainFrom" "[I", Cond.fieldLink RX12 107 "LanternHouseModel" "trainTo" "[I", Cond.methodLink RX12 352 yX12_comesBy, Cond.instanceMethod yX12_comesBy, Cond.selects RX12 yX12_comesBy yX12_comesBy]
def wsX12_makes_r4 : List Cond := [Cond.code yX12_comesBy cX12_comesBy 5 (some .int), Cond.fieldLink RX12 110 "LanternHouseModel" "trainHour" "[I", Cond.fieldLink RX12 113 "LanternHouseModel" "trainTakes" "[I", Cond.methodLink RX12 381 yX12_isAhead, Cond.instanceMethod yX12_isAhead, Cond.selects RX12 yX12_isAhead yX12_isAhead, Cond.code yX12_isAhead cX12_isAhead 7 (some .boolean), Cond.methodLink RX12 394 yX12_bits, Cond.static yX12_bits, Cond.code yX12_bits cX12_bits 3 (some .int)]
def wsX12_makes : List Cond := .code yX12_makes cX12_makes 8 none :: ((wsX12_makes_r1 ++ (wsX12_makes_r2 ++ (wsX12_makes_r3 ++ wsX12_makes_r4))) ++ wsX120)
def wsX12_make_r1 : List Cond := [Cond.fieldLink RX12 385 "LanternHouseModel" "made" "I", Cond.methodLink RX12 344 yX12_isKnown, Cond.instanceMethod yX12_isKnown, Cond.selects RX12 yX12_isKnown yX12_isKnown, Cond.initialized RX12, Cond.code yX12_isKnown cX12_isKnown 2 (some .boolean), Cond.fieldLink RX12 323 "LanternHouseModel" "facts" "I", Cond.methodLink RX12 397 yX12_makes, Cond.instanceMethod yX12_makes, Cond.selects RX12 yX12_makes yX12_makes, Cond.code yX12_makes cX12_makes 8 none, Cond.fieldLink RX12 284 "LanternHouseModel" "shows" "I", Cond.fieldLink RX12 361 "LanternHouseModel" "missed" "I", Cond.fieldLink RX12 364 "LanternHouseModel" "instead" "I", Cond.fieldLink RX12 287 "LanternHouseModel" "isMade" "Z", Cond.fieldLink RX12 388 "LanternHouseModel" "madeMissed" "I", Cond.fieldLink RX12 391 "LanternHouseModel" "madeInstead" "I", Cond.fieldLink RX12 173 "LanternHouseModel" "madeGets" "[I", Cond.fieldLink RX12 152 "LanternHouseModel" "gets" "[I", Cond.fieldLink RX12 176 "LanternHouseModel" "madeAs" "[I", Cond.fieldLink RX12 155 "LanternHouseModel" "getsAs" "[I", Cond.fieldLink RX12 179 "LanternHouseModel" "madeFrom" "[I", Cond.fieldLink RX12 158 "LanternHouseModel" "getsFrom" "[I", Cond.fieldLink RX12 182 "LanternHouseModel" "madeAt" "[I"]
def wsX12_make_r2 : List Cond := [Cond.fieldLink RX12 161 "LanternHouseModel" "getsAt" "[I", Cond.methodLink RX12 355 yX12_knows, Cond.instanceMethod yX12_knows, Cond.selects RX12 yX12_knows yX12_knows, Cond.code yX12_knows cX12_knows 3 none, Cond.fieldLink RX12 128 "LanternHouseModel" "stillFor" "I", Cond.fieldLink RX12 131 "LanternHouseModel" "still" "[Z", Cond.fieldLink RX12 119 "LanternHouseModel" "factSort" "[I", Cond.fieldLink RX12 122 "LanternHouseModel" "factOf" "[I", Cond.fieldLink RX12 125 "LanternHouseModel" "factAt" "[I", Cond.methodLink RX12 378 yX12_worthOf, Cond.instanceMethod yX12_worthOf, Cond.selects RX12 yX12_worthOf yX12_worthOf, Cond.code yX12_worthOf cX12_worthOf 4 (some .int), Cond.fieldLink RX12 149 "LanternHouseModel" "worth" "[I", Cond.methodLink RX12 375 yX12_keeps, Cond.instanceMethod yX12_keeps, Cond.selects RX12 yX12_keeps yX12_keeps, Cond.code yX12_keeps cX12_keeps 5 (some .boolean), Cond.fieldLink RX12 320 "LanternHouseModel" "plates" "I", Cond.fieldLink RX12 164 "LanternHouseModel" "plateAt" "[I", Cond.fieldLink RX12 167 "LanternHouseModel" "plateFree" "[I", Cond.fieldLink RX12 137 "LanternHouseModel" "night" "[I", Cond.methodLink RX12 367 yX12_keepsShow]
def wsX12_make_r3 : List Cond := [Cond.instanceMethod yX12_keepsShow, Cond.selects RX12 yX12_keepsShow yX12_keepsShow, Cond.code yX12_keepsShow cX12_keepsShow 7 (some .boolean), Cond.fieldLink RX12 272 "LanternHouseModel" "live" "I", Cond.fieldLink RX12 143 "LanternHouseModel" "lecture" "[I", Cond.fieldLink RX12 170 "LanternHouseModel" "inShow" "[Z", Cond.fieldLink RX12 46 "LanternHouseModel" "cues" "[I", Cond.fieldLink RX12 56 "LanternHouseModel" "cueKinds" "[I", Cond.fieldLink RX12 59 "LanternHouseModel" "cueKind" "[I", Cond.fieldLink RX12 52 "LanternHouseModel" "cueMust" "[Z", Cond.fieldLink RX12 140 "LanternHouseModel" "where" "[I", Cond.fieldLink RX12 332 "LanternHouseModel" "cleaning" "I", Cond.methodLink RX12 371 yX12_takes, Cond.instanceMethod yX12_takes, Cond.selects RX12 yX12_takes yX12_takes, Cond.code yX12_takes cX12_takes 9 none, Cond.fieldLink RX12 116 "LanternHouseModel" "kind" "[I", Cond.methodLink RX12 347 yX12_isBroken, Cond.instanceMethod yX12_isBroken, Cond.selects RX12 yX12_isBroken yX12_isBroken, Cond.code yX12_isBroken cX12_isBroken 6 (some .boolean), Cond.methodLink RX12 358 yX12_wayTo, Cond.instanceMethod yX12_wayTo, Cond.selects RX12 yX12_wayTo yX12_wayTo]
def wsX12_make_r4 : List Cond := [Cond.code yX12_wayTo cX12_wayTo 8 (some .int), Cond.fieldLink RX12 134 "LanternHouseModel" "soonest" "[I", Cond.constant RX12 351 (1000000), Cond.fieldLink RX12 326 "LanternHouseModel" "trains" "I", Cond.fieldLink RX12 104 "LanternHouseModel" "trainFrom" "[I", Cond.fieldLink RX12 107 "LanternHouseModel" "trainTo" "[I", Cond.methodLink RX12 352 yX12_comesBy, Cond.instanceMethod yX12_comesBy, Cond.selects RX12 yX12_comesBy yX12_comesBy, Cond.code yX12_comesBy cX12_comesBy 5 (some .int), Cond.fieldLink RX12 110 "LanternHouseModel" "trainHour" "[I", Cond.fieldLink RX12 113 "LanternHouseModel" "trainTakes" "[I", Cond.methodLink RX12 381 yX12_isAhead, Cond.instanceMethod yX12_isAhead, Cond.selects RX12 yX12_isAhead yX12_isAhead, Cond.code yX12_isAhead cX12_isAhead 7 (some .boolean), Cond.methodLink RX12 394 yX12_bits, Cond.static yX12_bits, Cond.code yX12_bits cX12_bits 3 (some .int)]
def wsX12_make : List Cond := .code yX12_make cX12_make 2 (some .int) :: ((wsX12_make_r1 ++ (wsX12_make_r2 ++ (wsX12_make_r3 ++ wsX12_make_r4))) ++ wsX120)
def wsX12_mend_r1 : List Cond := [Cond.fieldLink RX12 287 "LanternHouseModel" "isMade" "Z", Cond.fieldLink RX12 385 "LanternHouseModel" "made" "I", Cond.methodLink RX12 344 yX12_isKnown, Cond.instanceMethod yX12_isKnown, Cond.selects RX12 yX12_isKnown yX12_isKnown, Cond.initialized RX12, Cond.code yX12_isKnown cX12_isKnown 2 (some .boolean), Cond.fieldLink RX12 323 "LanternHouseModel" "facts" "I", Cond.methodLink RX12 397 yX12_makes, Cond.instanceMethod yX12_makes, Cond.selects RX12 yX12_makes yX12_makes, Cond.code yX12_makes cX12_makes 8 none, Cond.fieldLink RX12 284 "LanternHouseModel" "shows" "I", Cond.fieldLink RX12 361 "LanternHouseModel" "missed" "I", Cond.fieldLink RX12 364 "LanternHouseModel" "instead" "I", Cond.fieldLink RX12 388 "LanternHouseModel" "madeMissed" "I", Cond.fieldLink RX12 391 "LanternHouseModel" "madeInstead" "I", Cond.fieldLink RX12 173 "LanternHouseModel" "madeGets" "[I", Cond.fieldLink RX12 152 "LanternHouseModel" "gets" "[I", Cond.fieldLink RX12 176 "LanternHouseModel" "madeAs" "[I", Cond.fieldLink RX12 155 "LanternHouseModel" "getsAs" "[I", Cond.fieldLink RX12 179 "LanternHouseModel" "madeFrom" "[I", Cond.fieldLink RX12 158 "LanternHouseModel" "getsFrom" "[I", Cond.fieldLink RX12 182 "LanternHouseModel" "madeAt" "[I"]
def wsX12_mend_r2 : List Cond := [Cond.fieldLink RX12 161 "LanternHouseModel" "getsAt" "[I", Cond.methodLink RX12 355 yX12_knows, Cond.instanceMethod yX12_knows, Cond.selects RX12 yX12_knows yX12_knows, Cond.code yX12_knows cX12_knows 3 none, Cond.fieldLink RX12 128 "LanternHouseModel" "stillFor" "I", Cond.fieldLink RX12 131 "LanternHouseModel" "still" "[Z", Cond.fieldLink RX12 119 "LanternHouseModel" "factSort" "[I", Cond.fieldLink RX12 122 "LanternHouseModel" "factOf" "[I", Cond.fieldLink RX12 125 "LanternHouseModel" "factAt" "[I", Cond.methodLink RX12 378 yX12_worthOf, Cond.instanceMethod yX12_worthOf, Cond.selects RX12 yX12_worthOf yX12_worthOf, Cond.code yX12_worthOf cX12_worthOf 4 (some .int), Cond.fieldLink RX12 149 "LanternHouseModel" "worth" "[I", Cond.methodLink RX12 375 yX12_keeps, Cond.instanceMethod yX12_keeps, Cond.selects RX12 yX12_keeps yX12_keeps, Cond.code yX12_keeps cX12_keeps 5 (some .boolean), Cond.fieldLink RX12 320 "LanternHouseModel" "plates" "I", Cond.fieldLink RX12 164 "LanternHouseModel" "plateAt" "[I", Cond.fieldLink RX12 167 "LanternHouseModel" "plateFree" "[I", Cond.fieldLink RX12 137 "LanternHouseModel" "night" "[I", Cond.methodLink RX12 367 yX12_keepsShow]
def wsX12_mend_r3 : List Cond := [Cond.instanceMethod yX12_keepsShow, Cond.selects RX12 yX12_keepsShow yX12_keepsShow, Cond.code yX12_keepsShow cX12_keepsShow 7 (some .boolean), Cond.fieldLink RX12 272 "LanternHouseModel" "live" "I", Cond.fieldLink RX12 143 "LanternHouseModel" "lecture" "[I", Cond.fieldLink RX12 170 "LanternHouseModel" "inShow" "[Z", Cond.fieldLink RX12 46 "LanternHouseModel" "cues" "[I", Cond.fieldLink RX12 56 "LanternHouseModel" "cueKinds" "[I", Cond.fieldLink RX12 59 "LanternHouseModel" "cueKind" "[I", Cond.fieldLink RX12 52 "LanternHouseModel" "cueMust" "[Z", Cond.fieldLink RX12 140 "LanternHouseModel" "where" "[I", Cond.fieldLink RX12 332 "LanternHouseModel" "cleaning" "I", Cond.methodLink RX12 371 yX12_takes, Cond.instanceMethod yX12_takes, Cond.selects RX12 yX12_takes yX12_takes, Cond.code yX12_takes cX12_takes 9 none, Cond.fieldLink RX12 116 "LanternHouseModel" "kind" "[I", Cond.methodLink RX12 347 yX12_isBroken, Cond.instanceMethod yX12_isBroken, Cond.selects RX12 yX12_isBroken yX12_isBroken, Cond.code yX12_isBroken cX12_isBroken 6 (some .boolean), Cond.methodLink RX12 358 yX12_wayTo, Cond.instanceMethod yX12_wayTo, Cond.selects RX12 yX12_wayTo yX12_wayTo]
def wsX12_mend_r4 : List Cond := [Cond.code yX12_wayTo cX12_wayTo 8 (some .int), Cond.fieldLink RX12 134 "LanternHouseModel" "soonest" "[I", Cond.constant RX12 351 (1000000), Cond.fieldLink RX12 326 "LanternHouseModel" "trains" "I", Cond.fieldLink RX12 104 "LanternHouseModel" "trainFrom" "[I", Cond.fieldLink RX12 107 "LanternHouseModel" "trainTo" "[I", Cond.methodLink RX12 352 yX12_comesBy, Cond.instanceMethod yX12_comesBy, Cond.selects RX12 yX12_comesBy yX12_comesBy, Cond.code yX12_comesBy cX12_comesBy 5 (some .int), Cond.fieldLink RX12 110 "LanternHouseModel" "trainHour" "[I", Cond.fieldLink RX12 113 "LanternHouseModel" "trainTakes" "[I", Cond.methodLink RX12 381 yX12_isAhead, Cond.instanceMethod yX12_isAhead, Cond.selects RX12 yX12_isAhead yX12_isAhead, Cond.code yX12_isAhead cX12_isAhead 7 (some .boolean), Cond.methodLink RX12 394 yX12_bits, Cond.static yX12_bits, Cond.code yX12_bits cX12_bits 3 (some .int)]
def wsX12_mend : List Cond := .code yX12_mend cX12_mend 3 (some .int) :: ((wsX12_mend_r1 ++ (wsX12_mend_r2 ++ (wsX12_mend_r3 ++ wsX12_mend_r4))) ++ wsX120)
def wsX12_isKept : List Cond := .code yX12_isKept cX12_isKept 2 (some .boolean) :: ([.fieldLink RX12 284 "LanternHouseModel" "shows" "I", .fieldLink RX12 287 "LanternHouseModel" "isMade" "Z", .fieldLink RX12 385 "LanternHouseModel" "made" "I"] ++ wsX120)
def wsX12_told : List Cond := .code yX12_told cX12_told 3 (some .int) :: ([.fieldLink RX12 284 "LanternHouseModel" "shows" "I", .fieldLink RX12 137 "LanternHouseModel" "night" "[I", .fieldLink RX12 140 "LanternHouseModel" "where" "[I", .fieldLink RX12 143 "LanternHouseModel" "lecture" "[I", .fieldLink RX12 146 "LanternHouseModel" "gas" "[I", .fieldLink RX12 149 "LanternHouseModel" "worth" "[I", .methodLink RX12 401 yX12_isKept, .instanceMethod yX12_isKept, .selects RX12 yX12_isKept yX12_isKept, .initialized RX12, .code yX12_isKept cX12_isKept 2 (some .boolean), .fieldLink RX12 287 "LanternHouseModel" "isMade" "Z", .fieldLink RX12 385 "LanternHouseModel" "made" "I"] ++ wsX120)
def wsX12_cue_r1 : List Cond := [Cond.fieldLink RX12 46 "LanternHouseModel" "cues" "[I", Cond.fieldLink RX12 272 "LanternHouseModel" "live" "I", Cond.fieldLink RX12 143 "LanternHouseModel" "lecture" "[I", Cond.fieldLink RX12 173 "LanternHouseModel" "madeGets" "[I", Cond.fieldLink RX12 116 "LanternHouseModel" "kind" "[I", Cond.fieldLink RX12 188 "LanternHouseModel" "begins" "[I", Cond.fieldLink RX12 191 "LanternHouseModel" "isShown" "[Z", Cond.fieldLink RX12 176 "LanternHouseModel" "madeAs" "[I", Cond.methodLink RX12 401 yX12_isKept, Cond.instanceMethod yX12_isKept, Cond.selects RX12 yX12_isKept yX12_isKept, Cond.initialized RX12, Cond.code yX12_isKept cX12_isKept 2 (some .boolean), Cond.fieldLink RX12 284 "LanternHouseModel" "shows" "I", Cond.fieldLink RX12 287 "LanternHouseModel" "isMade" "Z", Cond.fieldLink RX12 385 "LanternHouseModel" "made" "I", Cond.methodLink RX12 414 yX12_goesThrough, Cond.instanceMethod yX12_goesThrough, Cond.selects RX12 yX12_goesThrough yX12_goesThrough, Cond.code yX12_goesThrough cX12_goesThrough 8 none, Cond.fieldLink RX12 185 "LanternHouseModel" "variables" "[I", Cond.fieldLink RX12 149 "LanternHouseModel" "worth" "[I", Cond.fieldLink RX12 404 "LanternHouseModel" "firstDark" "I", Cond.fieldLink RX12 146 "LanternHouseModel" "gas" "[I"]
def wsX12_cue_r2 : List Cond := [Cond.fieldLink RX12 62 "LanternHouseModel" "cueFor" "[I", Cond.fieldLink RX12 65 "LanternHouseModel" "cueFade" "[I"]
def wsX12_cue : List Cond := .code yX12_cue cX12_cue 6 (some .int) :: ((wsX12_cue_r1 ++ wsX12_cue_r2) ++ wsX120)
def wsX12_showing_r1 : List Cond := [Cond.fieldLink RX12 185 "LanternHouseModel" "variables" "[I", Cond.fieldLink RX12 272 "LanternHouseModel" "live" "I", Cond.fieldLink RX12 143 "LanternHouseModel" "lecture" "[I", Cond.fieldLink RX12 68 "LanternHouseModel" "hireFrom" "[I", Cond.fieldLink RX12 71 "LanternHouseModel" "hireTo" "[I", Cond.fieldLink RX12 404 "LanternHouseModel" "firstDark" "I", Cond.methodLink RX12 401 yX12_isKept, Cond.instanceMethod yX12_isKept, Cond.selects RX12 yX12_isKept yX12_isKept, Cond.initialized RX12, Cond.code yX12_isKept cX12_isKept 2 (some .boolean), Cond.fieldLink RX12 284 "LanternHouseModel" "shows" "I", Cond.fieldLink RX12 287 "LanternHouseModel" "isMade" "Z", Cond.fieldLink RX12 385 "LanternHouseModel" "made" "I", Cond.methodLink RX12 414 yX12_goesThrough, Cond.instanceMethod yX12_goesThrough, Cond.selects RX12 yX12_goesThrough yX12_goesThrough, Cond.code yX12_goesThrough cX12_goesThrough 8 none, Cond.fieldLink RX12 149 "LanternHouseModel" "worth" "[I", Cond.fieldLink RX12 146 "LanternHouseModel" "gas" "[I", Cond.fieldLink RX12 46 "LanternHouseModel" "cues" "[I", Cond.fieldLink RX12 188 "LanternHouseModel" "begins" "[I", Cond.fieldLink RX12 191 "LanternHouseModel" "isShown" "[Z", Cond.fieldLink RX12 173 "LanternHouseModel" "madeGets" "[I"]
def wsX12_showing_r2 : List Cond := [Cond.fieldLink RX12 62 "LanternHouseModel" "cueFor" "[I", Cond.fieldLink RX12 65 "LanternHouseModel" "cueFade" "[I", Cond.fieldLink RX12 176 "LanternHouseModel" "madeAs" "[I", Cond.methodLink RX12 417 yX12_hireOf, Cond.instanceMethod yX12_hireOf, Cond.selects RX12 yX12_hireOf yX12_hireOf, Cond.code yX12_hireOf cX12_hireOf 4 (some .int), Cond.fieldLink RX12 49 "LanternHouseModel" "hires" "[I", Cond.methodLink RX12 411 yX12_holds, Cond.instanceMethod yX12_holds, Cond.selects RX12 yX12_holds yX12_holds, Cond.code yX12_holds cX12_holds 7 (some .boolean), Cond.fieldLink RX12 74 "LanternHouseModel" "hireFirst" "[I", Cond.fieldLink RX12 77 "LanternHouseModel" "hireLast" "[I", Cond.fieldLink RX12 86 "LanternHouseModel" "relLeft" "[I", Cond.fieldLink RX12 89 "LanternHouseModel" "relRight" "[I", Cond.fieldLink RX12 92 "LanternHouseModel" "relEnd" "[I", Cond.fieldLink RX12 83 "LanternHouseModel" "relSort" "[I", Cond.methodLink RX12 407 yX12_value, Cond.instanceMethod yX12_value, Cond.selects RX12 yX12_value yX12_value, Cond.code yX12_value cX12_value 7 (some .int), Cond.fieldLink RX12 95 "LanternHouseModel" "code" "[I", Cond.fieldLink RX12 194 "LanternHouseModel" "pile" "[I"]
def wsX12_showing_r3 : List Cond := [Cond.fieldLink RX12 98 "LanternHouseModel" "codeInt" "[I"]
def wsX12_showing : List Cond := .code yX12_showing cX12_showing 5 (some .int) :: ((wsX12_showing_r1 ++ (wsX12_showing_r2 ++ wsX12_showing_r3)) ++ wsX120)
def wsX12_blame_r1 : List Cond := [Cond.fieldLink RX12 287 "LanternHouseModel" "isMade" "Z", Cond.fieldLink RX12 119 "LanternHouseModel" "factSort" "[I", Cond.fieldLink RX12 122 "LanternHouseModel" "factOf" "[I", Cond.fieldLink RX12 125 "LanternHouseModel" "factAt" "[I", Cond.fieldLink RX12 284 "LanternHouseModel" "shows" "I", Cond.fieldLink RX12 137 "LanternHouseModel" "night" "[I", Cond.fieldLink RX12 182 "LanternHouseModel" "madeAt" "[I", Cond.fieldLink RX12 179 "LanternHouseModel" "madeFrom" "[I", Cond.fieldLink RX12 140 "LanternHouseModel" "where" "[I", Cond.methodLink RX12 338 yX12_isPlate, Cond.instanceMethod yX12_isPlate, Cond.selects RX12 yX12_isPlate yX12_isPlate, Cond.initialized RX12, Cond.code yX12_isPlate cX12_isPlate 2 (some .boolean), Cond.fieldLink RX12 320 "LanternHouseModel" "plates" "I", Cond.methodLink RX12 344 yX12_isKnown, Cond.instanceMethod yX12_isKnown, Cond.selects RX12 yX12_isKnown yX12_isKnown, Cond.code yX12_isKnown cX12_isKnown 2 (some .boolean), Cond.fieldLink RX12 323 "LanternHouseModel" "facts" "I", Cond.methodLink RX12 401 yX12_isKept, Cond.instanceMethod yX12_isKept, Cond.selects RX12 yX12_isKept yX12_isKept, Cond.code yX12_isKept cX12_isKept 2 (some .boolean)]
def wsX12_blame_r2 : List Cond := [Cond.fieldLink RX12 385 "LanternHouseModel" "made" "I", Cond.methodLink RX12 420 yX12_cueOf, Cond.instanceMethod yX12_cueOf, Cond.selects RX12 yX12_cueOf yX12_cueOf, Cond.code yX12_cueOf cX12_cueOf 4 (some .int), Cond.fieldLink RX12 46 "LanternHouseModel" "cues" "[I", Cond.fieldLink RX12 272 "LanternHouseModel" "live" "I", Cond.fieldLink RX12 143 "LanternHouseModel" "lecture" "[I", Cond.fieldLink RX12 173 "LanternHouseModel" "madeGets" "[I"]
def wsX12_blame : List Cond := .code yX12_blame cX12_blame 11 (some .int) :: ((wsX12_blame_r1 ++ wsX12_blame_r2) ++ wsX120)
def wsX12_where_r1 : List Cond := [Cond.fieldLink RX12 287 "LanternHouseModel" "isMade" "Z", Cond.fieldLink RX12 284 "LanternHouseModel" "shows" "I", Cond.fieldLink RX12 137 "LanternHouseModel" "night" "[I", Cond.fieldLink RX12 140 "LanternHouseModel" "where" "[I", Cond.methodLink RX12 338 yX12_isPlate, Cond.instanceMethod yX12_isPlate, Cond.selects RX12 yX12_isPlate yX12_isPlate, Cond.initialized RX12, Cond.code yX12_isPlate cX12_isPlate 2 (some .boolean), Cond.fieldLink RX12 320 "LanternHouseModel" "plates" "I", Cond.methodLink RX12 341 yX12_isHour, Cond.static yX12_isHour, Cond.code yX12_isHour cX12_isHour 1 (some .boolean), Cond.methodLink RX12 401 yX12_isKept, Cond.instanceMethod yX12_isKept, Cond.selects RX12 yX12_isKept yX12_isKept, Cond.code yX12_isKept cX12_isKept 2 (some .boolean), Cond.fieldLink RX12 385 "LanternHouseModel" "made" "I", Cond.methodLink RX12 420 yX12_cueOf, Cond.instanceMethod yX12_cueOf, Cond.selects RX12 yX12_cueOf yX12_cueOf, Cond.code yX12_cueOf cX12_cueOf 4 (some .int), Cond.fieldLink RX12 46 "LanternHouseModel" "cues" "[I", Cond.fieldLink RX12 272 "LanternHouseModel" "live" "I"]
def wsX12_where_r2 : List Cond := [Cond.fieldLink RX12 143 "LanternHouseModel" "lecture" "[I", Cond.fieldLink RX12 173 "LanternHouseModel" "madeGets" "[I"]
def wsX12_where : List Cond := .code yX12_where cX12_where 5 (some .int) :: ((wsX12_where_r1 ++ wsX12_where_r2) ++ wsX120)
def wsX12_count : List Cond := .code yX12_count cX12_count 2 (some .int) :: ([.fieldLink RX12 201 "LanternHouseModel" "halls" "I", .fieldLink RX12 326 "LanternHouseModel" "trains" "I", .fieldLink RX12 320 "LanternHouseModel" "plates" "I", .fieldLink RX12 323 "LanternHouseModel" "facts" "I", .fieldLink RX12 40 "LanternHouseModel" "lectures" "[I", .fieldLink RX12 272 "LanternHouseModel" "live" "I", .fieldLink RX12 284 "LanternHouseModel" "shows" "I", .fieldLink RX12 287 "LanternHouseModel" "isMade" "Z", .fieldLink RX12 385 "LanternHouseModel" "made" "I", .fieldLink RX12 388 "LanternHouseModel" "madeMissed" "I", .fieldLink RX12 391 "LanternHouseModel" "madeInstead" "I", .fieldLink RX12 204 "LanternHouseModel" "taped" "I", .methodLink RX12 394 yX12_bits, .static yX12_bits, .initialized RX12, .code yX12_bits cX12_bits 3 (some .int)] ++ wsX120)
theorem in_X0_init_0 : ∀ w ∈ wsX00, w ∈ wsX0_init := fun w h => List.mem_cons_of_mem _ (List.mem_append_right _ h)
theorem in_X0_isKnown_0 : ∀ w ∈ wsX00, w ∈ wsX0_isKnown := fun w h => List.mem_cons_of_mem _ (List.mem_append_right _ h)
theorem in_X10_init_10 : ∀ w ∈ wsX100, w ∈ wsX10_init := fun w h => List.mem_cons_of_mem _ (List.mem_append_right _ h)
theorem in_X10_pastBlanks_9 : ∀ w ∈ wsX90, w ∈ wsX10_pastBlanks := fun w h => List.mem_cons_of_mem _ (List.mem_append_right _ h)
theorem in_X10_scan_10 : ∀ w ∈ wsX100, w ∈ wsX10_scan := fun w h => List.mem_cons_of_mem _ (List.mem_append_left _ (List.mem_append_right _ h))
theorem in_X11_back_9 : ∀ w ∈ wsX90, w ∈ wsX11_back := fun w h => List.mem_cons_of_mem _ (List.mem_append_right _ h)
theorem in_X11_back_11 : ∀ w ∈ wsX110, w ∈ wsX11_back := fun w h => List.mem_cons_of_mem _ (List.mem_append_left _ (List.mem_append_right _ h))
theorem in_X11_blame_11 : ∀ w ∈ wsX110, w ∈ wsX11_blame := fun w h => List.mem_cons_of_mem _ (List.mem_append_left _ (List.mem_append_left _ (List.mem_append_left _ (List.mem_append_left _ (List.mem_append_left _ (List.mem_append_right _ h))))))
theorem in_X11_can_3 : ∀ w ∈ wsX30, w ∈ wsX11_can := fun w h => List.mem_cons_of_mem _ (List.mem_append_left _ (List.mem_append_left _ (List.mem_append_left _ (List.mem_append_left _ (List.mem_append_left _ (List.mem_append_left _ (List.mem_append_right _ h)))))))
theorem in_X11_can_11 : ∀ w ∈ wsX110, w ∈ wsX11_can := fun w h => List.mem_cons_of_mem _ (List.mem_append_left _ (List.mem_append_left _ (List.mem_append_left _ (List.mem_append_left _ (List.mem_append_left _ (List.mem_append_left _ (List.mem_append_left _ (List.mem_append_right _ h))))))))
theorem in_X11_cancel_4 : ∀ w ∈ wsX40, w ∈ wsX11_cancel := fun w h => List.mem_cons_of_mem _ (List.mem_append_left _ (List.mem_append_right _ h))
theorem in_X11_cancel_11 : ∀ w ∈ wsX110, w ∈ wsX11_cancel := fun w h => List.mem_cons_of_mem _ (List.mem_append_left _ (List.mem_append_left _ (List.mem_append_right _ h)))
theorem in_X11_cleaning_1 : ∀ w ∈ wsX10, w ∈ wsX11_cleaning := fun w h => List.mem_cons_of_mem _ (List.mem_append_right _ h)
theorem in_X11_cleaning_11 : ∀ w ∈ wsX110, w ∈ wsX11_cleaning := fun w h => List.mem_cons_of_mem _ (List.mem_append_left _ (List.mem_append_right _ h))
theorem in_X11_count_0 : ∀ w ∈ wsX00, w ∈ wsX11_count := fun w h => List.mem_cons_of_mem _ (List.mem_append_left _ (List.mem_append_left _ (List.mem_append_left _ (List.mem_append_left _ (List.mem_append_right _ h)))))
theorem in_X11_count_2 : ∀ w ∈ wsX20, w ∈ wsX11_count := fun w h => List.mem_cons_of_mem _ (List.mem_append_left _ (List.mem_append_left _ (List.mem_append_right _ h)))
theorem in_X11_count_4 : ∀ w ∈ wsX40, w ∈ wsX11_count := fun w h => List.mem_cons_of_mem _ (List.mem_append_left _ (List.mem_append_left _ (List.mem_append_left _ (List.mem_append_left _ (List.mem_append_left _ (List.mem_append_left _ (List.mem_append_right _ h)))))))
theorem in_X11_count_7 : ∀ w ∈ wsX70, w ∈ wsX11_count := fun w h => List.mem_cons_of_mem _ (List.mem_append_left _ (List.mem_append_left _ (List.mem_append_left _ (List.mem_append_right _ h))))
theorem in_X11_count_8 : ∀ w ∈ wsX80, w ∈ wsX11_count := fun w h => List.mem_cons_of_mem _ (List.mem_append_left _ (List.mem_append_left _ (List.mem_append_left _ (List.mem_append_left _ (List.mem_append_left _ (List.mem_append_right _ h))))))
theorem in_X11_count_9 : ∀ w ∈ wsX90, w ∈ wsX11_count := fun w h => List.mem_cons_of_mem _ (List.mem_append_right _ h)
theorem in_X11_count_11 : ∀ w ∈ wsX110, w ∈ wsX11_count := fun w h => List.mem_cons_of_mem _ (List.mem_append_left _ (List.mem_append_left _ (List.mem_append_left _ (List.mem_append_left _ (List.mem_append_left _ (List.mem_append_left _ (List.mem_append_left _ (List.mem_append_right _ h))))))))
theorem in_X11_feed_9 : ∀ w ∈ wsX90, w ∈ wsX11_feed := fun w h => List.mem_cons_of_mem _ (List.mem_append_right _ h)
theorem in_X11_feed_11 : ∀ w ∈ wsX110, w ∈ wsX11_feed := fun w h => List.mem_cons_of_mem _ (List.mem_append_left _ (List.mem_append_right _ h))
theorem in_X11_hall_11 : ∀ w ∈ wsX110, w ∈ wsX11_hall := fun w h => List.mem_cons_of_mem _ (List.mem_append_left _ (List.mem_append_right _ h))
theorem in_X11_init_0 : ∀ w ∈ wsX00, w ∈ wsX11_init := fun w h => List.mem_cons_of_mem _ (List.mem_append_left _ (List.mem_append_left _ (List.mem_append_left _ (List.mem_append_left _ (List.mem_append_left _ (List.mem_append_right _ h))))))
theorem in_X11_init_1 : ∀ w ∈ wsX10, w ∈ wsX11_init := fun w h => List.mem_cons_of_mem _ (List.mem_append_left _ (List.mem_append_left _ (List.mem_append_right _ h)))
theorem in_X11_init_2 : ∀ w ∈ wsX20, w ∈ wsX11_init := fun w h => List.mem_cons_of_mem _ (List.mem_append_left _ (List.mem_append_left _ (List.mem_append_left _ (List.mem_append_right _ h))))
theorem in_X11_init_3 : ∀ w ∈ wsX30, w ∈ wsX11_init := fun w h => List.mem_cons_of_mem _ (List.mem_append_right _ h)
theorem in_X11_init_4 : ∀ w ∈ wsX40, w ∈ wsX11_init := fun w h => List.mem_cons_of_mem _ (List.mem_append_left _ (List.mem_append_left _ (List.mem_append_left _ (List.mem_append_left _ (List.mem_append_left _ (List.mem_append_left _ (List.mem_append_left _ (List.mem_append_right _ h))))))))
theorem in_X11_init_5 : ∀ w ∈ wsX50, w ∈ wsX11_init := fun w h => List.mem_cons_of_mem _ (List.mem_append_left _ (List.mem_append_left _ (List.mem_append_left _ (List.mem_append_left _ (List.mem_append_left _ (List.mem_append_left _ (List.mem_append_left _ (List.mem_append_left _ (List.mem_append_right _ h)))))))))
theorem in_X11_init_6 : ∀ w ∈ wsX60, w ∈ wsX11_init := fun w h => List.mem_cons_of_mem _ (List.mem_append_left _ (List.mem_append_right _ h))
theorem in_X11_init_7 : ∀ w ∈ wsX70, w ∈ wsX11_init := fun w h => List.mem_cons_of_mem _ (List.mem_append_left _ (List.mem_append_left _ (List.mem_append_left _ (List.mem_append_left _ (List.mem_append_right _ h)))))
theorem in_X11_init_8 : ∀ w ∈ wsX80, w ∈ wsX11_init := fun w h => List.mem_cons_of_mem _ (List.mem_append_left _ (List.mem_append_left _ (List.mem_append_left _ (List.mem_append_left _ (List.mem_append_left _ (List.mem_append_left _ (List.mem_append_right _ h)))))))
theorem in_X11_init_9 : ∀ w ∈ wsX90, w ∈ wsX11_init := fun w h => List.mem_cons_of_mem _ (List.mem_append_left _ (List.mem_append_left _ (List.mem_append_left _ (List.mem_append_left _ (List.mem_append_left _ (List.mem_append_left _ (List.mem_append_left _ (List.mem_append_left _ (List.mem_append_left _ (List.mem_append_left _ (List.mem_append_left _ (List.mem_append_right _ h))))))))))))
theorem in_X11_init_10 : ∀ w ∈ wsX100, w ∈ wsX11_init := fun w h => List.mem_cons_of_mem _ (List.mem_append_left _ (List.mem_append_left _ (List.mem_append_left _ (List.mem_append_left _ (List.mem_append_left _ (List.mem_append_left _ (List.mem_append_left _ (List.mem_append_left _ (List.mem_append_left _ (List.mem_append_right _ h))))))))))
theorem in_X11_init_11 : ∀ w ∈ wsX110, w ∈ wsX11_init := fun w h => List.mem_cons_of_mem _ (List.mem_append_left _ (List.mem_append_left _ (List.mem_append_left _ (List.mem_append_left _ (List.mem_append_left _ (List.mem_append_left _ (List.mem_append_left _ (List.mem_append_left _ (List.mem_append_left _ (List.mem_append_left _ (List.mem_append_right _ h)))))))))))
theorem in_X11_isKept_11 : ∀ w ∈ wsX110, w ∈ wsX11_isKept := fun w h => List.mem_cons_of_mem _ (List.mem_append_left _ (List.mem_append_left _ (List.mem_append_right _ h)))
theorem in_X11_isPlate_8 : ∀ w ∈ wsX80, w ∈ wsX11_isPlate := fun w h => List.mem_cons_of_mem _ (List.mem_append_right _ h)
theorem in_X11_isPlate_11 : ∀ w ∈ wsX110, w ∈ wsX11_isPlate := fun w h => List.mem_cons_of_mem _ (List.mem_append_left _ (List.mem_append_right _ h))
theorem in_X11_make_3 : ∀ w ∈ wsX30, w ∈ wsX11_make := fun w h => List.mem_cons_of_mem _ (List.mem_append_left _ (List.mem_append_left _ (List.mem_append_left _ (List.mem_append_left _ (List.mem_append_left _ (List.mem_append_left _ (List.mem_append_right _ h)))))))
theorem in_X11_make_11 : ∀ w ∈ wsX110, w ∈ wsX11_make := fun w h => List.mem_cons_of_mem _ (List.mem_append_left _ (List.mem_append_left _ (List.mem_append_left _ (List.mem_append_left _ (List.mem_append_left _ (List.mem_append_left _ (List.mem_append_left _ (List.mem_append_right _ h))))))))
theorem in_X11_mend_11 : ∀ w ∈ wsX110, w ∈ wsX11_mend := fun w h => List.mem_cons_of_mem _ (List.mem_append_left _ (List.mem_append_left _ (List.mem_append_left _ (List.mem_append_left _ (List.mem_append_left _ (List.mem_append_left _ (List.mem_append_left _ (List.mem_append_right _ h))))))))
theorem in_X11_place_5 : ∀ w ∈ wsX50, w ∈ wsX11_place := fun w h => List.mem_cons_of_mem _ (List.mem_append_right _ h)
theorem in_X11_place_11 : ∀ w ∈ wsX110, w ∈ wsX11_place := fun w h => List.mem_cons_of_mem _ (List.mem_append_left _ (List.mem_append_right _ h))
theorem in_X11_plate_11 : ∀ w ∈ wsX110, w ∈ wsX11_plate := fun w h => List.mem_cons_of_mem _ (List.mem_append_left _ (List.mem_append_right _ h))
theorem in_X11_read_5 : ∀ w ∈ wsX50, w ∈ wsX11_read := fun w h => List.mem_cons_of_mem _ (List.mem_append_left _ (List.mem_append_left _ (List.mem_append_left _ (List.mem_append_right _ h))))
theorem in_X11_read_7 : ∀ w ∈ wsX70, w ∈ wsX11_read := fun w h => List.mem_cons_of_mem _ (List.mem_append_left _ (List.mem_append_left _ (List.mem_append_right _ h)))
theorem in_X11_read_9 : ∀ w ∈ wsX90, w ∈ wsX11_read := fun w h => List.mem_cons_of_mem _ (List.mem_append_left _ (List.mem_append_left _ (List.mem_append_left _ (List.mem_append_left _ (List.mem_append_right _ h)))))
theorem in_X11_read_11 : ∀ w ∈ wsX110, w ∈ wsX11_read := fun w h => List.mem_cons_of_mem _ (List.mem_append_left _ (List.mem_append_left _ (List.mem_append_left _ (List.mem_append_left _ (List.mem_append_left _ (List.mem_append_right _ h))))))
theorem in_X11_settle_3 : ∀ w ∈ wsX30, w ∈ wsX11_settle := fun w h => List.mem_cons_of_mem _ (List.mem_append_left _ (List.mem_append_left _ (List.mem_append_left _ (List.mem_append_left _ (List.mem_append_left _ (List.mem_append_left _ (List.mem_append_right _ h)))))))
theorem in_X11_settle_11 : ∀ w ∈ wsX110, w ∈ wsX11_settle := fun w h => List.mem_cons_of_mem _ (List.mem_append_left _ (List.mem_append_left _ (List.mem_append_left _ (List.mem_append_left _ (List.mem_append_left _ (List.mem_append_left _ (List.mem_append_left _ (List.mem_append_right _ h))))))))
theorem in_X11_show_11 : ∀ w ∈ wsX110, w ∈ wsX11_show := fun w h => List.mem_cons_of_mem _ (List.mem_append_left _ (List.mem_append_left _ (List.mem_append_left _ (List.mem_append_right _ h))))
theorem in_X11_told_11 : ∀ w ∈ wsX110, w ∈ wsX11_told := fun w h => List.mem_cons_of_mem _ (List.mem_append_left _ (List.mem_append_left _ (List.mem_append_right _ h)))
theorem in_X11_train_11 : ∀ w ∈ wsX110, w ∈ wsX11_train := fun w h => List.mem_cons_of_mem _ (List.mem_append_left _ (List.mem_append_right _ h))
theorem in_X11_way_11 : ∀ w ∈ wsX110, w ∈ wsX11_way := fun w h => List.mem_cons_of_mem _ (List.mem_append_left _ (List.mem_append_left _ (List.mem_append_right _ h)))
theorem in_X11_where_11 : ∀ w ∈ wsX110, w ∈ wsX11_where := fun w h => List.mem_cons_of_mem _ (List.mem_append_left _ (List.mem_append_left _ (List.mem_append_left _ (List.mem_append_left _ (List.mem_append_right _ h)))))
theorem in_X12_at_12 : ∀ w ∈ wsX120, w ∈ wsX12_at := fun w h => List.mem_cons_of_mem _ (List.mem_append_right _ h)
theorem in_X12_back_12 : ∀ w ∈ wsX120, w ∈ wsX12_back := fun w h => List.mem_cons_of_mem _ (List.mem_append_right _ h)
theorem in_X12_can_12 : ∀ w ∈ wsX120, w ∈ wsX12_can := fun w h => List.mem_cons_of_mem _ (List.mem_append_right _ h)
theorem in_X12_cancel_12 : ∀ w ∈ wsX120, w ∈ wsX12_cancel := fun w h => List.mem_cons_of_mem _ (List.mem_append_right _ h)
theorem in_X12_cleaning_12 : ∀ w ∈ wsX120, w ∈ wsX12_cleaning := fun w h => List.mem_cons_of_mem _ (List.mem_append_right _ h)
theorem in_X12_count_12 : ∀ w ∈ wsX120, w ∈ wsX12_count := fun w h => List.mem_cons_of_mem _ (List.mem_append_right _ h)
theorem in_X12_cut_12 : ∀ w ∈ wsX120, w ∈ wsX12_cut := fun w h => List.mem_cons_of_mem _ (List.mem_append_right _ h)
theorem in_X12_feed_12 : ∀ w ∈ wsX120, w ∈ wsX12_feed := fun w h => List.mem_cons_of_mem _ (List.mem_append_right _ h)
theorem in_X12_hall_12 : ∀ w ∈ wsX120, w ∈ wsX12_hall := fun w h => List.mem_cons_of_mem _ (List.mem_append_right _ h)
theorem in_X12_init_12 : ∀ w ∈ wsX120, w ∈ wsX12_init := fun w h => List.mem_cons_of_mem _ (List.mem_append_right _ h)
theorem in_X12_is_12 : ∀ w ∈ wsX120, w ∈ wsX12_is := fun w h => List.mem_cons_of_mem _ (List.mem_append_right _ h)
theorem in_X12_isHall_12 : ∀ w ∈ wsX120, w ∈ wsX12_isHall := fun w h => List.mem_cons_of_mem _ (List.mem_append_right _ h)
theorem in_X12_isKept_12 : ∀ w ∈ wsX120, w ∈ wsX12_isKept := fun w h => List.mem_cons_of_mem _ (List.mem_append_right _ h)
theorem in_X12_isKnown_12 : ∀ w ∈ wsX120, w ∈ wsX12_isKnown := fun w h => List.mem_cons_of_mem _ (List.mem_append_right _ h)
theorem in_X12_isPlate_12 : ∀ w ∈ wsX120, w ∈ wsX12_isPlate := fun w h => List.mem_cons_of_mem _ (List.mem_append_right _ h)
theorem in_X12_keeps_12 : ∀ w ∈ wsX120, w ∈ wsX12_keeps := fun w h => List.mem_cons_of_mem _ (List.mem_append_right _ h)
theorem in_X12_knows_12 : ∀ w ∈ wsX120, w ∈ wsX12_knows := fun w h => List.mem_cons_of_mem _ (List.mem_append_right _ h)
theorem in_X12_look_12 : ∀ w ∈ wsX120, w ∈ wsX12_look := fun w h => List.mem_cons_of_mem _ (List.mem_append_right _ h)
theorem in_X12_make_12 : ∀ w ∈ wsX120, w ∈ wsX12_make := fun w h => List.mem_cons_of_mem _ (List.mem_append_right _ h)
theorem in_X12_makes_12 : ∀ w ∈ wsX120, w ∈ wsX12_makes := fun w h => List.mem_cons_of_mem _ (List.mem_append_right _ h)
theorem in_X12_mend_12 : ∀ w ∈ wsX120, w ∈ wsX12_mend := fun w h => List.mem_cons_of_mem _ (List.mem_append_right _ h)
theorem in_X12_place_12 : ∀ w ∈ wsX120, w ∈ wsX12_place := fun w h => List.mem_cons_of_mem _ (List.mem_append_right _ h)
theorem in_X12_plate_12 : ∀ w ∈ wsX120, w ∈ wsX12_plate := fun w h => List.mem_cons_of_mem _ (List.mem_append_right _ h)
theorem in_X12_put_12 : ∀ w ∈ wsX120, w ∈ wsX12_put := fun w h => List.mem_cons_of_mem _ (List.mem_append_right _ h)
theorem in_X12_read_12 : ∀ w ∈ wsX120, w ∈ wsX12_read := fun w h => List.mem_cons_of_mem _ (List.mem_append_right _ h)
theorem in_X12_show_12 : ∀ w ∈ wsX120, w ∈ wsX12_show := fun w h => List.mem_cons_of_mem _ (List.mem_append_right _ h)
theorem in_X12_token_12 : ∀ w ∈ wsX120, w ∈ wsX12_token := fun w h => List.mem_cons_of_mem _ (List.mem_append_right _ h)
theorem in_X12_told_12 : ∀ w ∈ wsX120, w ∈ wsX12_told := fun w h => List.mem_cons_of_mem _ (List.mem_append_right _ h)
theorem in_X12_train_12 : ∀ w ∈ wsX120, w ∈ wsX12_train := fun w h => List.mem_cons_of_mem _ (List.mem_append_right _ h)
theorem in_X12_wayTo_12 : ∀ w ∈ wsX120, w ∈ wsX12_wayTo := fun w h => List.mem_cons_of_mem _ (List.mem_append_right _ h)
theorem in_X12_worthOf_12 : ∀ w ∈ wsX120, w ∈ wsX12_worthOf := fun w h => List.mem_cons_of_mem _ (List.mem_append_right _ h)
theorem in_X1_init_1 : ∀ w ∈ wsX10, w ∈ wsX1_init := fun w h => List.mem_cons_of_mem _ (List.mem_append_right _ h)
theorem in_X1_keep_1 : ∀ w ∈ wsX10, w ∈ wsX1_keep := fun w h => List.mem_cons_of_mem _ (List.mem_append_left _ (List.mem_append_left _ (List.mem_append_left _ (List.mem_append_left _ (List.mem_append_right _ h)))))
theorem in_X1_keep_7 : ∀ w ∈ wsX70, w ∈ wsX1_keep := fun w h => List.mem_cons_of_mem _ (List.mem_append_left _ (List.mem_append_left _ (List.mem_append_left _ (List.mem_append_right _ h))))
theorem in_X1_prepare_1 : ∀ w ∈ wsX10, w ∈ wsX1_prepare := fun w h => List.mem_cons_of_mem _ (List.mem_append_left _ (List.mem_append_left _ (List.mem_append_left _ (List.mem_append_right _ h))))
theorem in_X1_prepare_7 : ∀ w ∈ wsX70, w ∈ wsX1_prepare := fun w h => List.mem_cons_of_mem _ (List.mem_append_left _ (List.mem_append_left _ (List.mem_append_right _ h)))
theorem in_X2_clear_2 : ∀ w ∈ wsX20, w ∈ wsX2_clear := fun w h => List.mem_cons_of_mem _ (List.mem_append_right _ h)
theorem in_X2_init_2 : ∀ w ∈ wsX20, w ∈ wsX2_init := fun w h => List.mem_cons_of_mem _ (List.mem_append_right _ h)
theorem in_X3_begin_3 : ∀ w ∈ wsX30, w ∈ wsX3_begin := fun w h => List.mem_cons_of_mem _ (List.mem_append_right _ h)
theorem in_X3_init_3 : ∀ w ∈ wsX30, w ∈ wsX3_init := fun w h => List.mem_cons_of_mem _ (List.mem_append_right _ h)
theorem in_X4_addHall_4 : ∀ w ∈ wsX40, w ∈ wsX4_addHall := fun w h => List.mem_cons_of_mem _ (List.mem_append_right _ h)
theorem in_X4_addTrain_4 : ∀ w ∈ wsX40, w ∈ wsX4_addTrain := fun w h => List.mem_cons_of_mem _ (List.mem_append_right _ h)
theorem in_X4_init_4 : ∀ w ∈ wsX40, w ∈ wsX4_init := fun w h => List.mem_cons_of_mem _ (List.mem_append_right _ h)
theorem in_X4_isHall_4 : ∀ w ∈ wsX40, w ∈ wsX4_isHall := fun w h => List.mem_cons_of_mem _ (List.mem_append_right _ h)
theorem in_X4_learn_4 : ∀ w ∈ wsX40, w ∈ wsX4_learn := fun w h => List.mem_cons_of_mem _ (List.mem_append_left _ (List.mem_append_right _ h))
theorem in_X4_soonest_4 : ∀ w ∈ wsX40, w ∈ wsX4_soonest := fun w h => List.mem_cons_of_mem _ (List.mem_append_right _ h)
theorem in_X4_spread_4 : ∀ w ∈ wsX40, w ∈ wsX4_spread := fun w h => List.mem_cons_of_mem _ (List.mem_append_right _ h)
theorem in_X5_begin_5 : ∀ w ∈ wsX50, w ∈ wsX5_begin := fun w h => List.mem_cons_of_mem _ (List.mem_append_left _ (List.mem_append_right _ h))
theorem in_X5_init_5 : ∀ w ∈ wsX50, w ∈ wsX5_init := fun w h => List.mem_cons_of_mem _ (List.mem_append_right _ h)
theorem in_X5_parse_5 : ∀ w ∈ wsX50, w ∈ wsX5_parse := fun w h => List.mem_cons_of_mem _ (List.mem_append_left _ (List.mem_append_left _ (List.mem_append_right _ h)))
theorem in_X5_parse_10 : ∀ w ∈ wsX100, w ∈ wsX5_parse := fun w h => List.mem_cons_of_mem _ (List.mem_append_left _ (List.mem_append_right _ h))
theorem in_X6_init_6 : ∀ w ∈ wsX60, w ∈ wsX6_init := fun w h => List.mem_cons_of_mem _ (List.mem_append_right _ h)
theorem in_X7_add_2 : ∀ w ∈ wsX20, w ∈ wsX7_add := fun w h => List.mem_cons_of_mem _ (List.mem_append_right _ h)
theorem in_X7_add_7 : ∀ w ∈ wsX70, w ∈ wsX7_add := fun w h => List.mem_cons_of_mem _ (List.mem_append_left _ (List.mem_append_right _ h))
theorem in_X7_all_7 : ∀ w ∈ wsX70, w ∈ wsX7_all := fun w h => List.mem_cons_of_mem _ (List.mem_append_right _ h)
theorem in_X7_init_7 : ∀ w ∈ wsX70, w ∈ wsX7_init := fun w h => List.mem_cons_of_mem _ (List.mem_append_right _ h)
theorem in_X7_isShow_7 : ∀ w ∈ wsX70, w ∈ wsX7_isShow := fun w h => List.mem_cons_of_mem _ (List.mem_append_right _ h)
theorem in_X7_isTaken_7 : ∀ w ∈ wsX70, w ∈ wsX7_isTaken := fun w h => List.mem_cons_of_mem _ (List.mem_append_right _ h)
theorem in_X7_startOver_7 : ∀ w ∈ wsX70, w ∈ wsX7_startOver := fun w h => List.mem_cons_of_mem _ (List.mem_append_right _ h)
theorem in_X7_worthOf_7 : ∀ w ∈ wsX70, w ∈ wsX7_worthOf := fun w h => List.mem_cons_of_mem _ (List.mem_append_right _ h)
theorem in_X8_add_8 : ∀ w ∈ wsX80, w ∈ wsX8_add := fun w h => List.mem_cons_of_mem _ (List.mem_append_right _ h)
theorem in_X8_init_8 : ∀ w ∈ wsX80, w ∈ wsX8_init := fun w h => List.mem_cons_of_mem _ (List.mem_append_right _ h)
theorem in_X9_at_9 : ∀ w ∈ wsX90, w ∈ wsX9_at := fun w h => List.mem_cons_of_mem _ (List.mem_append_right _ h)
theorem in_X9_init_9 : ∀ w ∈ wsX90, w ∈ wsX9_init := fun w h => List.mem_cons_of_mem _ (List.mem_append_right _ h)
theorem in_X9_put_9 : ∀ w ∈ wsX90, w ∈ wsX9_put := fun w h => List.mem_cons_of_mem _ (List.mem_append_right _ h)
