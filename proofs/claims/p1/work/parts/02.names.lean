/-! ===== BEGIN words of one list among another's, by their places ===== -/
theorem goodIn_r {big : List Cond} (ws : List Cond) (ps : List Nat) (hp : ws = ps.filterMap (fun i => big[i]?)) (h : ws.all goodWord = true) : GoodIn big ws := by
  intro w hw
  have h1 := List.all_eq_true.mp h w hw
  rw [hp] at hw
  obtain ⟨i, -, hi⟩ := List.mem_filterMap.mp hw
  have hm : w ∈ big := by first | exact List.mem_of_getElem? hi | exact List.getElem?_mem hi
  exact ⟨hm, good_of_word h1⟩
theorem goodIn_app {big a b : List Cond} (ha : GoodIn big a) (hb : GoodIn big b) : GoodIn big (a ++ b) := fun w h => (List.mem_append.mp h).elim (ha w) (hb w)
theorem goodIn_ca {big a b : List Cond} {c : Cond} (ha : GoodIn big (c :: a)) (hb : GoodIn big b) : GoodIn big (c :: (a ++ b)) := fun w h => (List.mem_cons.mp h).elim (fun e => ha w (List.mem_cons.mpr (Or.inl e))) (fun h => (List.mem_append.mp h).elim (fun h => ha w (List.mem_cons.mpr (Or.inr h))) (hb w))
theorem goodIn_sub {big ws : List Cond} (hm : ∀ w ∈ ws, w ∈ big) (h : ws.all goodWord = true) : GoodIn big ws := fun w hw => ⟨hm w hw, good_of_word (List.all_eq_true.mp h w hw)⟩
/-! ===== END ===== -/

/-! ===== BEGIN new T[n][m]: the outer array a place, the inner ones among the pooled ===== -/
/-- f, but v at every address of l -/
def vr_up {α : Type} (f : Nat → α) (l : List Nat) (v : α) : Nat → α := fun a => if a ∈ l then v else f a
theorem vr_up_in {α : Type} {f : Nat → α} {l : List Nat} {v : α} {a : Nat} (h : a ∈ l) : vr_up f l v a = v := if_pos h
theorem vr_up_ne {α : Type} {f : Nat → α} {l : List Nat} {v : α} {a : Nat} (h : a ∉ l) : vr_up f l v a = f a := if_neg h
theorem vr_rows {L l : List Nat} {f : Nat → va_E} {e : va_E} (h : ∀ a, a ∈ l → a ∉ L) : va_pl L f ++ l.map (fun a => (a, e)) = va_pl (L ++ l) (vr_up f l e) := by
  unfold va_pl
  rw [List.map_append]
  congr 1
  · apply List.map_congr_left
    intro a ha
    rw [vr_up_ne (fun q => h a q ha)]
  · apply List.map_congr_left
    intro a ha
    rw [vr_up_in ha]
theorem vr_lay {X rows : va_W} {x : Nat × va_E} {pl : va_W} {D : va_G} {cl : List vw_C} {H : Heap} (hP : va_P D cl (((X ++ pl) ++ [x]) ++ rows) H) : va_P D cl ((X ++ [x]) ++ (pl ++ rows)) H := by
  rw [List.append_assoc (X ++ pl)] at hP
  have h := va_P.swap hP
  rw [← List.append_assoc X] at h
  have h2 := va_P.swap h
  rw [List.append_assoc (X ++ [x])] at h2
  exact h2
theorem vr_layD {X rows : va_W} {x : Nat × va_E} {pl : va_W} {A : Nat → Prop} (hD : va_D A (((X ++ pl) ++ [x]) ++ rows)) : va_D A ((X ++ [x]) ++ (pl ++ rows)) := by
  rw [List.append_assoc (X ++ pl)] at hD
  have h := va_D.swap hD
  rw [← List.append_assoc X] at h
  have h2 := va_D.swap h
  rw [List.append_assoc (X ++ [x])] at h2
  exact h2
theorem vr_outer (c : ClassId) (N h0 : Nat) : ∀ i : Nat, Jvm.Free.Multi.outerC c N h0 i = arrV c N (fun j => va_rf (if j < i then some (h0 + 1 + j) else none))
  | 0 => by
    show ({ cls := c, slots := Array.replicate N .null, vm := .none } : Cell) = _
    rw [arrV_new]
    refine congrArg (arrV c N) (funext fun j => ?_)
    simp [va_rf]
  | i + 1 => by
    show (Jvm.Free.Multi.outerC c N h0 i).setSlot i (.ref (h0 + 1 + i)) = _
    rw [vr_outer c N h0 i, arrV_store]
    refine congrArg (arrV c N) (funext fun j => ?_)
    by_cases e : j = i
    · subst e
      simp [updV, va_rf]
    · by_cases h : j < i
      · simp [updV, e, h, Nat.lt_succ_of_lt h]
      · simp [updV, e, h, show ¬ j < i + 1 by omega]
section VGM
variable {p : Program} {l : Launch} {e : Env} {R : Room} {s : State} {m : MethodId} {args : Array Value} {below : List Frame} {meth : Method} {c : Code} {H : Heap} {locs : List Loc} {cells slots : Nat} {Q : State → Prop}
variable {cc : ByteArray} {pc : Nat} {ls : Array Slot} {rest : List Value} {D : va_G} {cl : List vw_C} {A : Nat → Prop} {a : Nat} {tys : List (ClassId × FieldType)} {ws : va_W} {H0 : Heap}
theorem va_mna {X : va_W} {L : List Nat} {f : Nat → va_E} {cc : ByteArray} (hexec : p.tables.exec = Jvm.exec) (hb : c.code = cc) {own : String} {index : Nat} {ty : FieldType} {cy : ClassId} (hown : s.vm.findClass own = some m.cls) (hclink : (Cond.classLink own index ("[" ++ (FieldType.array ty).toString)).before args s = true) (hover : (Cond.arrayOver (.array ty)).before args s = true) (harr : (Cond.arrayClass ty).before args s = true) (hcy : s.vm.findClass (FieldType.array ty).toString = some cy)
    (hK : va_K D cl tys s) (hP : va_P D cl (X ++ va_pl L f) H) (hD : va_D A (X ++ va_pl L f)) (hS : va_S A H0 H locs) (hA : ∀ q, H0.size ≤ q → A q) {n k : Int32} {N' K' : Nat} {z : vp_A} (hn : ¬ n < 0) (hk : ¬ k < 0) (hN : n.toNatClampNeg = N') (hM : k.toNatClampNeg = K')
    (hb1 : N' * 4 ≤ 536870912) (hb2 : K' * componentBytes ty ≤ 536870912) (hb3 : K' ≤ 536870912) (hdf : fits ty (defaultValue ty) = true) (hdd : (defaultValue ty).isDefault = true) (hcells : cells + (1 + N') ≤ R.cells) (hslots : slots + (N' + N' * K') ≤ R.slots) (hz : ∀ c : ClassId, Jvm.Free.Multi.innerC c K' (defaultValue ty) = vp_cell c z) (hdg : decode cc pc = .ok (.multianewarray index 2, 4))
    (kk : ∀ (q : Nat) (r : Nat → Nat) (cA : ClassId) (H1 : Heap), (∀ i j : Nat, i < N' → j < N' → r i = r j → i = j) → (∀ i : Nat, i < N' → r i ∉ L) → va_K D cl (tys ++ [(cA, .array ty)]) s →
      va_P D cl ((X ++ [(q, .inl (cA, N', .inr (.inr (.inr (.inr (fun i => if i < N' then some (r i) else none))))))]) ++ va_pl (L ++ (List.range N').map r) (vr_up f ((List.range N').map r) (.inl (cy, z)))) H1 → va_D A ((X ++ [(q, .inl (cA, N', .inr (.inr (.inr (.inr (fun i => if i < N' then some (r i) else none))))))]) ++ va_pl (L ++ (List.range N').map r) (vr_up f ((List.range N').map r) (.inl (cy, z)))) → va_S A H0 H1 locs →
      W p l e R s m args below meth c H1 locs (cells + 1 + N') (slots + N' + N' * K') Q (F0 m (pc + 4) ls (.ref q :: rest))) : W p l e R s m args below meth c H locs cells slots Q (F0 m pc ls (.int k :: .int n :: rest)) := by
  subst hN
  subst hM
  intro T hT Xs
  obtain ⟨vm₁, cA, comp, -, fA, fC, hO, -, X', step⟩ := Xs.multianewarray2F hexec hown hclink hover harr (g := F0 m pc ls (.int k :: .int n :: rest)) rfl (by rw [hb]; exact hdg) rfl hn hk hb1 hb2 hb3 hdf hdd hcells hslots
  have ec : some cy = some comp := hcy.symm.trans fC
  cases ec
  generalize hF : Jvm.Free.Multi.fill (T.setVm vm₁) cA cy n.toNatClampNeg k.toNatClampNeg (defaultValue ty) n.toNatClampNeg = F at X' step
  have hTh : (T.setVm vm₁).heap = H := hT
  obtain ⟨f1, f2, -, -⟩ := Jvm.Free.Multi.fill_facts (T.setVm vm₁) cA cy n.toNatClampNeg k.toNatClampNeg (defaultValue ty) n.toNatClampNeg
  rw [hF, hTh] at f1 f2
  have hold : ∀ x : Nat, x < H.size → F.heap[x]? = H[x]? := fun x hx => by
    have := Jvm.Free.Multi.fill_old (T.setVm vm₁) cA cy n.toNatClampNeg k.toNatClampNeg (defaultValue ty) (a := x) (by rw [hTh]; exact hx) n.toNatClampNeg
    rw [hF, hTh] at this
    exact this
  have hrow : ∀ j : Nat, j < n.toNatClampNeg → F.heap[H.size + 1 + j]? = some (vp_cell cy z) := fun j hj => by
    have := Jvm.Free.Multi.fill_inner (T.setVm vm₁) cA cy n.toNatClampNeg k.toNatClampNeg (defaultValue ty) n.toNatClampNeg j hj
    rw [hF, hTh, hz] at this
    exact this
  have hout : Jvm.Free.Multi.outerC cA n.toNatClampNeg H.size n.toNatClampNeg = vp_cell cA (n.toNatClampNeg, .inr (.inr (.inr (.inr (fun i => if i < n.toNatClampNeg then some (H.size + 1 + i) else none))))) := by
    rw [vp_cell_q]
    exact vr_outer cA n.toNatClampNeg H.size n.toNatClampNeg
  rw [hout] at f2
  have hlt : ∀ a, a ∈ L → a < H.size := fun a ha => by
    obtain ⟨k9, hk9⟩ := va_pl_get (X := X) (f := f) ha
    exact (hP k9 _ hk9).lt
  have hnl : ∀ i : Nat, i < n.toNatClampNeg → H.size + 1 + i ∉ L := fun i _ h => by
    have := hlt _ h
    omega
  have hnm : ∀ a, a ∈ (List.range n.toNatClampNeg).map (fun i => H.size + 1 + i) → a ∉ L := fun a ha h => by
    obtain ⟨i, -, rfl⟩ := List.mem_map.mp ha
    have := hlt _ h
    omega
  have hP0 : va_P D cl (X ++ va_pl L f) F.heap := hP.kept (fun k9 x hx => hold x.1 ((hP k9 x hx).lt))
  have hP1 : va_P D cl ((X ++ va_pl L f) ++ [(H.size, .inl (cA, n.toNatClampNeg, .inr (.inr (.inr (.inr (fun i => if i < n.toNatClampNeg then some (H.size + 1 + i) else none))))))]) F.heap := hP0.app (fun k9 x hx => by
    have h0 : k9 < 1 := (List.getElem?_eq_some_iff.mp hx).1
    rw [show k9 = 0 by omega] at hx
    cases hx
    exact f2)
  have hP2 : va_P D cl (((X ++ va_pl L f) ++ [(H.size, .inl (cA, n.toNatClampNeg, .inr (.inr (.inr (.inr (fun i => if i < n.toNatClampNeg then some (H.size + 1 + i) else none))))))]) ++ ((List.range n.toNatClampNeg).map (fun i => H.size + 1 + i)).map (fun a => (a, .inl (cy, z)))) F.heap := hP1.app (fun k9 x hx => by
    obtain ⟨a, ha, rfl⟩ := List.mem_map.mp (List.mem_of_getElem? hx)
    obtain ⟨i, hi, rfl⟩ := List.mem_map.mp ha
    exact hrow i (List.mem_range.mp hi))
  have hD2 : va_D A (((X ++ va_pl L f) ++ [(H.size, .inl (cA, n.toNatClampNeg, .inr (.inr (.inr (.inr (fun i => if i < n.toNatClampNeg then some (H.size + 1 + i) else none))))))]) ++ ((List.range n.toNatClampNeg).map (fun i => H.size + 1 + i)).map (fun a => (a, .inl (cy, z)))) := by
    have hD1 := hD.push (e := .inl (cA, n.toNatClampNeg, .inr (.inr (.inr (.inr (fun i => if i < n.toNatClampNeg then some (H.size + 1 + i) else none)))))) hP rfl (hA _ hS.1)
    generalize hW1 : (X ++ va_pl L f) ++ [(H.size, .inl (cA, n.toNatClampNeg, .inr (.inr (.inr (.inr (fun i => if i < n.toNatClampNeg then some (H.size + 1 + i) else none))))))] = W1 at hD1 hP1 ⊢
    have hle : ∀ (k9 : Nat) (x : Nat × va_E), W1[k9]? = some x → x.1 ≤ H.size := fun k9 x hx => by
      rw [← hW1] at hx
      by_cases hl : k9 < (X ++ va_pl L f).length
      · rw [List.getElem?_append_left hl] at hx
        exact Nat.le_of_lt ((hP k9 x hx).lt)
      · rw [List.getElem?_append_right (by omega)] at hx
        have h0 : k9 - (X ++ va_pl L f).length < 1 := (List.getElem?_eq_some_iff.mp hx).1
        rw [show k9 - (X ++ va_pl L f).length = 0 by omega] at hx
        cases hx
        exact Nat.le_refl _
    have hr : ∀ (k9 : Nat) (x : Nat × va_E), (((List.range n.toNatClampNeg).map (fun i => H.size + 1 + i)).map (fun a => ((a, .inl (cy, z)) : Nat × va_E)))[k9]? = some x → x.1 = H.size + 1 + k9 := fun k9 x hx => by
      rw [List.getElem?_map, List.getElem?_map] at hx
      by_cases h9 : k9 < n.toNatClampNeg
      · rw [List.getElem?_range h9] at hx
        cases hx
        rfl
      · have hn0 : (List.range n.toNatClampNeg)[k9]? = none := List.getElem?_eq_none (by rw [List.length_range]; omega)
        rw [hn0] at hx
        cases hx
    refine ⟨fun i j x y hi hj hxy => ?_, fun k9 x hx => ?_⟩
    · by_cases h1 : i < W1.length <;> by_cases h2 : j < W1.length
      · rw [List.getElem?_append_left h1] at hi
        rw [List.getElem?_append_left h2] at hj
        exact hD1.1 i j x y hi hj hxy
      · rw [List.getElem?_append_left h1] at hi
        rw [List.getElem?_append_right (by omega)] at hj
        have := hle _ _ hi
        have := hr _ _ hj
        omega
      · rw [List.getElem?_append_right (by omega)] at hi
        rw [List.getElem?_append_left h2] at hj
        have := hle _ _ hj
        have := hr _ _ hi
        omega
      · rw [List.getElem?_append_right (by omega)] at hi hj
        have := hr _ _ hi
        have := hr _ _ hj
        omega
    · by_cases h1 : k9 < W1.length
      · rw [List.getElem?_append_left h1] at hx
        exact hD1.2 k9 x hx
      · rw [List.getElem?_append_right (by omega)] at hx
        have := hr _ _ hx
        exact hA _ (by have := hS.1; omega)
  have hAr : ArrOfT s cA (.array ty) := fun N9 z9 => by
    obtain ⟨-, k9, hk9, cm9, hkk9⟩ := (hO 0 0 0).1
    exact ⟨(fun q hq => by cases hq), k9, hk9, cm9, hkk9⟩
  have hK2 : va_K D cl (tys ++ [(cA, .array ty)]) s := ⟨hK.1, fun k9 x hx => by
    by_cases hl : k9 < tys.length
    · rw [List.getElem?_append_left hl] at hx
      exact hK.2 k9 x hx
    · rw [List.getElem?_append_right (by omega)] at hx
      have h0 : k9 - tys.length < 1 := (List.getElem?_eq_some_iff.mp hx).1
      rw [show k9 - tys.length = 0 by omega] at hx
      cases hx
      exact ⟨hAr, fA⟩⟩
  obtain ⟨t, a1, b1⟩ := kk H.size (fun i => H.size + 1 + i) cA F.heap (fun i j _ _ h => by have h9 : H.size + 1 + i = H.size + 1 + j := h; omega) hnl hK2 (by rw [← vr_rows hnm]; exact vr_lay hP2) (by rw [← vr_rows hnm]; exact vr_layD hD2) ⟨by rw [f1]; have := hS.1; omega, fun x h1 h2 => (hold x (Nat.lt_of_lt_of_le h1 hS.1)).trans (hS.2.1 x h1 h2), hS.2.2⟩ F rfl X'
  refine ⟨t, step t ?_, b1⟩
  have e : T.heap.size = H.size := by rw [hT]
  rw [e]
  exact a1
end VGM
/-! ===== END ===== -/
def RX0 : String := "LanternHouse$Facts"
def TX0 : u_T := fun k => match k with
  | 0 => ("LanternHouse$Facts", "sorts", "[I", true)
  | 1 => ("LanternHouse$Facts", "subjects", "[I", true)
  | 2 => ("LanternHouse$Facts", "times", "[I", true)
  | 3 => ("LanternHouse$Facts", "latest", "[I", true)
  | _ => ("LanternHouse$Facts", "size", "I", false)
def tyX0 : Nat → FieldType := fun k => match k with
  | 0 => .array .int
  | 1 => .array .int
  | 2 => .array .int
  | 3 => .array .int
  | _ => .int
abbrev wsX00 : List Cond := u_ws RX0 TX0 5
theorem nmX0 : ∀ a, a < 5 → ∀ b, b < 5 → a ≠ b → (TX0 a).2.1 ≠ (TX0 b).2.1 := by decide +kernel
theorem tyX0_ok : ∀ k, k < 5 → parseFieldDescriptor (TX0 k).2.2.1 = some (tyX0 k) := by decide +kernel
abbrev cX0_init : ByteArray := prog_2_method_1_code
def yX0_init : MethodName := ⟨RX0, "<init>", "()V"⟩
abbrev cX0_add : ByteArray := prog_2_method_2_code
def yX0_add : MethodName := ⟨RX0, "add", "(III)I"⟩
abbrev cX0_isKnown : ByteArray := prog_2_method_3_code
def yX0_isKnown : MethodName := ⟨RX0, "isKnown", "(I)Z"⟩
abbrev cX0_brokenPlates : ByteArray := prog_2_method_4_code
def yX0_brokenPlates : MethodName := ⟨RX0, "brokenPlates", "(II)I"⟩
abbrev cX0_firstBroken : ByteArray := prog_2_method_5_code
def yX0_firstBroken : MethodName := ⟨RX0, "firstBroken", "(II)I"⟩
abbrev cX0_lastWhole : ByteArray := prog_2_method_6_code
def yX0_lastWhole : MethodName := ⟨RX0, "lastWhole", "(II)I"⟩
def RX1 : String := "LanternHouse$Keeper"
def TX1 : u_T := fun k => match k with
  | 0 => ("LanternHouse$Keeper", "shows", "LLanternHouse$Shows;", true)
  | 1 => ("LanternHouse$Keeper", "stock", "LLanternHouse$Stock;", true)
  | 2 => ("LanternHouse$Keeper", "facts", "LLanternHouse$Facts;", true)
  | 3 => ("LanternHouse$Keeper", "rails", "LLanternHouse$Rails;", true)
  | 4 => ("LanternHouse$Keeper", "arrivals", "[[I", true)
  | 5 => ("LanternHouse$Keeper", "broken", "[I", true)
  | 6 => ("LanternHouse$Keeper", "freeAt", "[I", true)
  | _ => ("LanternHouse$Keeper", "cleaningHours", "I", false)
def tyX1 : Nat → FieldType := fun k => match k with
  | 0 => .object "LanternHouse$Shows"
  | 1 => .object "LanternHouse$Stock"
  | 2 => .object "LanternHouse$Facts"
  | 3 => .object "LanternHouse$Rails"
  | 4 => .array (.array .int)
  | 5 => .array .int
  | 6 => .array .int
  | _ => .int
abbrev wsX10 : List Cond := u_ws RX1 TX1 8
theorem nmX1 : ∀ a, a < 8 → ∀ b, b < 8 → a ≠ b → (TX1 a).2.1 ≠ (TX1 b).2.1 := by decide +kernel
theorem tyX1_ok : ∀ k, k < 8 → parseFieldDescriptor (TX1 k).2.2.1 = some (tyX1 k) := by decide +kernel
abbrev cX1_init : ByteArray := prog_3_method_1_code
def yX1_init : MethodName := ⟨RX1, "<init>", "(LLanternHouse$Shows;LLanternHouse$Stock;LLanternHouse$Facts;LLanternHouse$Rails;)V"⟩
abbrev cX1_prepare : ByteArray := prog_3_method_2_code
def yX1_prepare : MethodName := ⟨RX1, "prepare", "(I)V"⟩
abbrev cX1_keep : ByteArray := prog_3_method_3_code
def yX1_keep : MethodName := ⟨RX1, "keep", "(ILLanternHouse$Plan;)Z"⟩
abbrev cX1_keepShow : ByteArray := prog_3_method_4_code
def yX1_keepShow : MethodName := ⟨RX1, "keepShow", "(ILLanternHouse$Plan;)Z"⟩
abbrev cX1_platesThatCome : ByteArray := prog_3_method_5_code
def yX1_platesThatCome : MethodName := ⟨RX1, "platesThatCome", "(I)I"⟩
abbrev cX1_firstChoice : ByteArray := prog_3_method_6_code
def yX1_firstChoice : MethodName := ⟨RX1, "firstChoice", "(II)I"⟩
abbrev cX1_lowestOf : ByteArray := prog_3_method_7_code
def yX1_lowestOf : MethodName := ⟨RX1, "lowestOf", "(I)I"⟩
abbrev cX1_wayEnd : ByteArray := prog_3_method_8_code
def yX1_wayEnd : MethodName := ⟨RX1, "wayEnd", "(II)I"⟩
def RX2 : String := "LanternHouse$Lectures"
def TX2 : u_T := fun k => match k with
  | 0 => ("LanternHouse$Lectures", "names", "[J", true)
  | 1 => ("LanternHouse$Lectures", "cueCounts", "[I", true)
  | 2 => ("LanternHouse$Lectures", "hireCounts", "[I", true)
  | 3 => ("LanternHouse$Lectures", "musts", "[Z", true)
  | 4 => ("LanternHouse$Lectures", "kindCounts", "[I", true)
  | 5 => ("LanternHouse$Lectures", "kinds", "[I", true)
  | 6 => ("LanternHouse$Lectures", "minutes", "[I", true)
  | 7 => ("LanternHouse$Lectures", "fades", "[I", true)
  | 8 => ("LanternHouse$Lectures", "hireStarts", "[I", true)
  | 9 => ("LanternHouse$Lectures", "hireEnds", "[I", true)
  | 10 => ("LanternHouse$Lectures", "code", "[I", true)
  | 11 => ("LanternHouse$Lectures", "codeSize", "I", false)
  | _ => ("LanternHouse$Lectures", "size", "I", false)
def tyX2 : Nat → FieldType := fun k => match k with
  | 0 => .array .long
  | 1 => .array .int
  | 2 => .array .int
  | 3 => .array .boolean
  | 4 => .array .int
  | 5 => .array .int
  | 6 => .array .int
  | 7 => .array .int
  | 8 => .array .int
  | 9 => .array .int
  | 10 => .array .int
  | 11 => .int
  | _ => .int
abbrev wsX20 : List Cond := u_ws RX2 TX2 13
theorem nmX2 : ∀ a, a < 13 → ∀ b, b < 13 → a ≠ b → (TX2 a).2.1 ≠ (TX2 b).2.1 := by decide +kernel
theorem tyX2_ok : ∀ k, k < 13 → parseFieldDescriptor (TX2 k).2.2.1 = some (tyX2 k) := by decide +kernel
abbrev cX2_init : ByteArray := prog_4_method_1_code
def yX2_init : MethodName := ⟨RX2, "<init>", "()V"⟩
abbrev cX2_clear : ByteArray := prog_4_method_2_code
def yX2_clear : MethodName := ⟨RX2, "clear", "()V"⟩
abbrev cX2_begin : ByteArray := prog_4_method_3_code
def yX2_begin : MethodName := ⟨RX2, "begin", "(J)V"⟩
abbrev cX2_hasName : ByteArray := prog_4_method_4_code
def yX2_hasName : MethodName := ⟨RX2, "hasName", "(J)Z"⟩
abbrev cX2_hasKind : ByteArray := prog_4_method_5_code
def yX2_hasKind : MethodName := ⟨RX2, "hasKind", "(II)Z"⟩
abbrev cX2_addKind : ByteArray := prog_4_method_6_code
def yX2_addKind : MethodName := ⟨RX2, "addKind", "(II)V"⟩
abbrev cX2_emit : ByteArray := prog_4_method_7_code
def yX2_emit : MethodName := ⟨RX2, "emit", "(I)V"⟩
def RX3 : String := "LanternHouse$Plan"
def TX3 : u_T := fun k => match k with
  | 0 => ("LanternHouse$Plan", "plates", "[I", true)
  | 1 => ("LanternHouse$Plan", "wayEnds", "[I", true)
  | 2 => ("LanternHouse$Plan", "standIns", "[Z", true)
  | 3 => ("LanternHouse$Plan", "set", "I", false)
  | 4 => ("LanternHouse$Plan", "worth", "I", false)
  | 5 => ("LanternHouse$Plan", "changes", "I", false)
  | 6 => ("LanternHouse$Plan", "missed", "I", false)
  | _ => ("LanternHouse$Plan", "instead", "I", false)
def tyX3 : Nat → FieldType := fun k => match k with
  | 0 => .array .int
  | 1 => .array .int
  | 2 => .array .boolean
  | 3 => .int
  | 4 => .int
  | 5 => .int
  | 6 => .int
  | _ => .int
abbrev wsX30 : List Cond := u_ws RX3 TX3 8
theorem nmX3 : ∀ a, a < 8 → ∀ b, b < 8 → a ≠ b → (TX3 a).2.1 ≠ (TX3 b).2.1 := by decide +kernel
theorem tyX3_ok : ∀ k, k < 8 → parseFieldDescriptor (TX3 k).2.2.1 = some (tyX3 k) := by decide +kernel
abbrev cX3_init : ByteArray := prog_5_method_1_code
def yX3_init : MethodName := ⟨RX3, "<init>", "()V"⟩
abbrev cX3_slot : ByteArray := prog_5_method_2_code
def yX3_slot : MethodName := ⟨RX3, "slot", "(II)I"⟩
abbrev cX3_begin : ByteArray := prog_5_method_3_code
def yX3_begin : MethodName := ⟨RX3, "begin", "(II)V"⟩
abbrev cX3_has : ByteArray := prog_5_method_4_code
def yX3_has : MethodName := ⟨RX3, "has", "(I)Z"⟩
abbrev cX3_miss : ByteArray := prog_5_method_5_code
def yX3_miss : MethodName := ⟨RX3, "miss", "(I)V"⟩
abbrev cX3_give : ByteArray := prog_5_method_6_code
def yX3_give : MethodName := ⟨RX3, "give", "(IIZI)V"⟩
abbrev cX3_isBetterThan : ByteArray := prog_5_method_7_code
def yX3_isBetterThan : MethodName := ⟨RX3, "isBetterThan", "(LLanternHouse$Plan;)Z"⟩
abbrev cX3_slotWith : ByteArray := prog_5_method_8_code
def yX3_slotWith : MethodName := ⟨RX3, "slotWith", "(IILLanternHouse$Shows;)I"⟩
abbrev cX3_whatCame : ByteArray := prog_5_method_9_code
def yX3_whatCame : MethodName := ⟨RX3, "whatCame", "(IIILLanternHouse$Shows;)I"⟩
abbrev cX3_sentTo : ByteArray := prog_5_method_10_code
def yX3_sentTo : MethodName := ⟨RX3, "sentTo", "(IILLanternHouse$Shows;)I"⟩
def RX4 : String := "LanternHouse$Rails"
def TX4 : u_T := fun k => match k with
  | 0 => ("LanternHouse$Rails", "froms", "[I", true)
  | 1 => ("LanternHouse$Rails", "tos", "[I", true)
  | 2 => ("LanternHouse$Rails", "hours", "[I", true)
  | 3 => ("LanternHouse$Rails", "lengths", "[I", true)
  | 4 => ("LanternHouse$Rails", "idleDays", "[J", true)
  | 5 => ("LanternHouse$Rails", "reached", "[I", true)
  | 6 => ("LanternHouse$Rails", "halls", "I", false)
  | _ => ("LanternHouse$Rails", "trains", "I", false)
def tyX4 : Nat → FieldType := fun k => match k with
  | 0 => .array .int
  | 1 => .array .int
  | 2 => .array .int
  | 3 => .array .int
  | 4 => .array .long
  | 5 => .array .int
  | 6 => .int
  | _ => .int
abbrev wsX40 : List Cond := u_ws RX4 TX4 8
theorem nmX4 : ∀ a, a < 8 → ∀ b, b < 8 → a ≠ b → (TX4 a).2.1 ≠ (TX4 b).2.1 := by decide +kernel
theorem tyX4_ok : ∀ k, k < 8 → parseFieldDescriptor (TX4 k).2.2.1 = some (tyX4 k) := by decide +kernel
abbrev cX4_init : ByteArray := prog_6_method_1_code
def yX4_init : MethodName := ⟨RX4, "<init>", "()V"⟩
abbrev cX4_addHall : ByteArray := prog_6_method_2_code
def yX4_addHall : MethodName := ⟨RX4, "addHall", "()I"⟩
abbrev cX4_isHall : ByteArray := prog_6_method_3_code
def yX4_isHall : MethodName := ⟨RX4, "isHall", "(I)Z"⟩
abbrev cX4_addTrain : ByteArray := prog_6_method_4_code
def yX4_addTrain : MethodName := ⟨RX4, "addTrain", "(IIII)I"⟩
abbrev cX4_learn : ByteArray := prog_6_method_5_code
def yX4_learn : MethodName := ⟨RX4, "learn", "(LLanternHouse$Facts;I)V"⟩
abbrev cX4_soonest : ByteArray := prog_6_method_6_code
def yX4_soonest : MethodName := ⟨RX4, "soonest", "(III)I"⟩
abbrev cX4_spread : ByteArray := prog_6_method_7_code
def yX4_spread : MethodName := ⟨RX4, "spread", "(II[I)V"⟩
abbrev cX4_arrival : ByteArray := prog_6_method_8_code
def yX4_arrival : MethodName := ⟨RX4, "arrival", "(III)I"⟩
def RX5 : String := "LanternHouse$Reader"
def TX5 : u_T := fun k => match k with
  | 0 => ("LanternHouse$Reader", "tokens", "LLanternHouse$Tokens;", true)
  | 1 => ("LanternHouse$Reader", "waiting", "[I", true)
  | 2 => ("LanternHouse$Reader", "waitingCount", "I", false)
  | 3 => ("LanternHouse$Reader", "text", "LLanternHouse$Lectures;", false)
  | 4 => ("LanternHouse$Reader", "at", "I", false)
  | 5 => ("LanternHouse$Reader", "value", "J", false)
  | 6 => ("LanternHouse$Reader", "valuePlace", "I", false)
  | 7 => ("LanternHouse$Reader", "fault", "I", false)
  | 8 => ("LanternHouse$Reader", "faultPlace", "I", false)
  | 9 => ("LanternHouse$Reader", "noted", "I", false)
  | _ => ("LanternHouse$Reader", "notedPlace", "I", false)
def tyX5 : Nat → FieldType := fun k => match k with
  | 0 => .object "LanternHouse$Tokens"
  | 1 => .array .int
  | 2 => .int
  | 3 => .object "LanternHouse$Lectures"
  | 4 => .int
  | 5 => .long
  | 6 => .int
  | 7 => .int
  | 8 => .int
  | 9 => .int
  | _ => .int
abbrev wsX50 : List Cond := u_ws RX5 TX5 11
theorem nmX5 : ∀ a, a < 11 → ∀ b, b < 11 → a ≠ b → (TX5 a).2.1 ≠ (TX5 b).2.1 := by decide +kernel
theorem tyX5_ok : ∀ k, k < 11 → parseFieldDescriptor (TX5 k).2.2.1 = some (tyX5 k) := by decide +kernel
abbrev cX5_init : ByteArray := prog_7_method_1_code
def yX5_init : MethodName := ⟨RX5, "<init>", "(LLanternHouse$Tokens;)V"⟩
abbrev cX5_parse : ByteArray := prog_7_method_2_code
def yX5_parse : MethodName := ⟨RX5, "parse", "(LLanternHouse$Lectures;)V"⟩
abbrev cX5_begin : ByteArray := prog_7_method_3_code
def yX5_begin : MethodName := ⟨RX5, "begin", "(LLanternHouse$Lectures;)V"⟩
abbrev cX5_fails : ByteArray := prog_7_method_4_code
def yX5_fails : MethodName := ⟨RX5, "fails", "(I)Z"⟩
abbrev cX5_note : ByteArray := prog_7_method_5_code
def yX5_note : MethodName := ⟨RX5, "note", "(I)V"⟩
abbrev cX5_take : ByteArray := prog_7_method_6_code
def yX5_take : MethodName := ⟨RX5, "take", "(I)Z"⟩
abbrev cX5_readLecture : ByteArray := prog_7_method_7_code
def yX5_readLecture : MethodName := ⟨RX5, "readLecture", "(I)Z"⟩
abbrev cX5_readCues : ByteArray := prog_7_method_8_code
def yX5_readCues : MethodName := ⟨RX5, "readCues", "(I)Z"⟩
abbrev cX5_readCue : ByteArray := prog_7_method_9_code
def yX5_readCue : MethodName := ⟨RX5, "readCue", "(II)Z"⟩
abbrev cX5_readKinds : ByteArray := prog_7_method_10_code
def yX5_readKinds : MethodName := ⟨RX5, "readKinds", "(I)Z"⟩
abbrev cX5_readHires : ByteArray := prog_7_method_11_code
def yX5_readHires : MethodName := ⟨RX5, "readHires", "(I)Z"⟩
abbrev cX5_readHire : ByteArray := prog_7_method_12_code
def yX5_readHire : MethodName := ⟨RX5, "readHire", "()Z"⟩
abbrev cX5_readSum : ByteArray := prog_7_method_13_code
def yX5_readSum : MethodName := ⟨RX5, "readSum", "()Z"⟩
abbrev cX5_hold : ByteArray := prog_7_method_14_code
def yX5_hold : MethodName := ⟨RX5, "hold", "(I)V"⟩
abbrev cX5_release : ByteArray := prog_7_method_15_code
def yX5_release : MethodName := ⟨RX5, "release", "(Z)V"⟩
def RX6 : String := "LanternHouse$Showing"
def TX6 : u_T := fun k => match k with
  | 0 => ("LanternHouse$Showing", "begins", "[I", true)
  | 1 => ("LanternHouse$Showing", "isShown", "[Z", true)
  | 2 => ("LanternHouse$Showing", "values", "[I", true)
  | 3 => ("LanternHouse$Showing", "shown", "I", false)
  | 4 => ("LanternHouse$Showing", "missed", "I", false)
  | 5 => ("LanternHouse$Showing", "instead", "I", false)
  | 6 => ("LanternHouse$Showing", "minutes", "I", false)
  | 7 => ("LanternHouse$Showing", "gas", "I", false)
  | 8 => ("LanternHouse$Showing", "worth", "I", false)
  | 9 => ("LanternHouse$Showing", "firstDark", "I", false)
  | 10 => ("LanternHouse$Showing", "hire", "I", false)
  | _ => ("LanternHouse$Showing", "hireNumber", "I", false)
def tyX6 : Nat → FieldType := fun k => match k with
  | 0 => .array .int
  | 1 => .array .boolean
  | 2 => .array .int
  | 3 => .int
  | 4 => .int
  | 5 => .int
  | 6 => .int
  | 7 => .int
  | 8 => .int
  | 9 => .int
  | 10 => .int
  | _ => .int
abbrev wsX60 : List Cond := u_ws RX6 TX6 12
theorem nmX6 : ∀ a, a < 12 → ∀ b, b < 12 → a ≠ b → (TX6 a).2.1 ≠ (TX6 b).2.1 := by decide +kernel
theorem tyX6_ok : ∀ k, k < 12 → parseFieldDescriptor (TX6 k).2.2.1 = some (tyX6 k) := by decide +kernel
abbrev cX6_init : ByteArray := prog_8_method_1_code
def yX6_init : MethodName := ⟨RX6, "<init>", "()V"⟩
abbrev cX6_goThrough : ByteArray := prog_8_method_2_code
def yX6_goThrough : MethodName := ⟨RX6, "goThrough", "(ILLanternHouse$Shows;LLanternHouse$Plan;)V"⟩
abbrev cX6_begin : ByteArray := prog_8_method_3_code
def yX6_begin : MethodName := ⟨RX6, "begin", "(I)V"⟩
abbrev cX6_findHire : ByteArray := prog_8_method_4_code
def yX6_findHire : MethodName := ⟨RX6, "findHire", "(LLanternHouse$Lectures;I)V"⟩
abbrev cX6_holds : ByteArray := prog_8_method_5_code
def yX6_holds : MethodName := ⟨RX6, "holds", "([III)Z"⟩
abbrev cX6_variable : ByteArray := prog_8_method_6_code
def yX6_variable : MethodName := ⟨RX6, "variable", "(I)I"⟩
abbrev cX6_reckon : ByteArray := prog_8_method_7_code
def yX6_reckon : MethodName := ⟨RX6, "reckon", "(III)I"⟩
abbrev cX6_relates : ByteArray := prog_8_method_8_code
def yX6_relates : MethodName := ⟨RX6, "relates", "(III)Z"⟩
def RX7 : String := "LanternHouse$Shows"
def TX7 : u_T := fun k => match k with
  | 0 => ("LanternHouse$Shows", "nights", "[I", true)
  | 1 => ("LanternHouse$Shows", "halls", "[I", true)
  | 2 => ("LanternHouse$Shows", "lectures", "[I", true)
  | 3 => ("LanternHouse$Shows", "gas", "[I", true)
  | 4 => ("LanternHouse$Shows", "worths", "[I", true)
  | 5 => ("LanternHouse$Shows", "order", "[I", true)
  | 6 => ("LanternHouse$Shows", "size", "I", false)
  | _ => ("LanternHouse$Shows", "text", "LLanternHouse$Lectures;", false)
def tyX7 : Nat → FieldType := fun k => match k with
  | 0 => .array .int
  | 1 => .array .int
  | 2 => .array .int
  | 3 => .array .int
  | 4 => .array .int
  | 5 => .array .int
  | 6 => .int
  | _ => .object "LanternHouse$Lectures"
abbrev wsX70 : List Cond := u_ws RX7 TX7 8
theorem nmX7 : ∀ a, a < 8 → ∀ b, b < 8 → a ≠ b → (TX7 a).2.1 ≠ (TX7 b).2.1 := by decide +kernel
theorem tyX7_ok : ∀ k, k < 8 → parseFieldDescriptor (TX7 k).2.2.1 = some (tyX7 k) := by decide +kernel
abbrev cX7_init : ByteArray := prog_9_method_1_code
def yX7_init : MethodName := ⟨RX7, "<init>", "(LLanternHouse$Lectures;)V"⟩
abbrev cX7_startOver : ByteArray := prog_9_method_2_code
def yX7_startOver : MethodName := ⟨RX7, "startOver", "(LLanternHouse$Lectures;)V"⟩
abbrev cX7_add : ByteArray := prog_9_method_3_code
def yX7_add : MethodName := ⟨RX7, "add", "(IIIII)I"⟩
abbrev cX7_isTaken : ByteArray := prog_9_method_4_code
def yX7_isTaken : MethodName := ⟨RX7, "isTaken", "(II)Z"⟩
abbrev cX7_putInOrder : ByteArray := prog_9_method_5_code
def yX7_putInOrder : MethodName := ⟨RX7, "putInOrder", "(I)V"⟩
abbrev cX7_isShow : ByteArray := prog_9_method_6_code
def yX7_isShow : MethodName := ⟨RX7, "isShow", "(I)Z"⟩
abbrev cX7_all : ByteArray := prog_9_method_7_code
def yX7_all : MethodName := ⟨RX7, "all", "()I"⟩
abbrev cX7_worthOf : ByteArray := prog_9_method_8_code
def yX7_worthOf : MethodName := ⟨RX7, "worthOf", "(I)I"⟩
abbrev cX7_cuesOf : ByteArray := prog_9_method_9_code
def yX7_cuesOf : MethodName := ⟨RX7, "cuesOf", "(I)I"⟩
abbrev cX7_dueHour : ByteArray := prog_9_method_10_code
def yX7_dueHour : MethodName := ⟨RX7, "dueHour", "(I)I"⟩
abbrev cX7_shownHour : ByteArray := prog_9_method_11_code
def yX7_shownHour : MethodName := ⟨RX7, "shownHour", "(I)I"⟩
abbrev cX7_freeHour : ByteArray := prog_9_method_12_code
def yX7_freeHour : MethodName := ⟨RX7, "freeHour", "(I)I"⟩
def RX8 : String := "LanternHouse$Stock"
def TX8 : u_T := fun k => match k with
  | 0 => ("LanternHouse$Stock", "kinds", "[I", true)
  | 1 => ("LanternHouse$Stock", "platesOfKind", "[I", true)
  | _ => ("LanternHouse$Stock", "size", "I", false)
def tyX8 : Nat → FieldType := fun k => match k with
  | 0 => .array .int
  | 1 => .array .int
  | _ => .int
abbrev wsX80 : List Cond := u_ws RX8 TX8 3
theorem nmX8 : ∀ a, a < 3 → ∀ b, b < 3 → a ≠ b → (TX8 a).2.1 ≠ (TX8 b).2.1 := by decide +kernel
theorem tyX8_ok : ∀ k, k < 3 → parseFieldDescriptor (TX8 k).2.2.1 = some (tyX8 k) := by decide +kernel
abbrev cX8_init : ByteArray := prog_10_method_1_code
def yX8_init : MethodName := ⟨RX8, "<init>", "()V"⟩
abbrev cX8_add : ByteArray := prog_10_method_2_code
def yX8_add : MethodName := ⟨RX8, "add", "(I)I"⟩
abbrev cX8_kindOf : ByteArray := prog_10_method_3_code
def yX8_kindOf : MethodName := ⟨RX8, "kindOf", "(I)I"⟩
def RX9 : String := "LanternHouse$Tape"
def TX9 : u_T := fun k => match k with
  | 0 => ("LanternHouse$Tape", "bytes", "[B", true)
  | _ => ("LanternHouse$Tape", "length", "I", false)
def tyX9 : Nat → FieldType := fun k => match k with
  | 0 => .array .byte
  | _ => .int
abbrev wsX90 : List Cond := u_ws RX9 TX9 2
theorem nmX9 : ∀ a, a < 2 → ∀ b, b < 2 → a ≠ b → (TX9 a).2.1 ≠ (TX9 b).2.1 := by decide +kernel
theorem tyX9_ok : ∀ k, k < 2 → parseFieldDescriptor (TX9 k).2.2.1 = some (tyX9 k) := by decide +kernel
abbrev cX9_init : ByteArray := prog_11_method_1_code
def yX9_init : MethodName := ⟨RX9, "<init>", "()V"⟩
abbrev cX9_put : ByteArray := prog_11_method_2_code
def yX9_put : MethodName := ⟨RX9, "put", "(I)V"⟩
abbrev cX9_at : ByteArray := prog_11_method_3_code
def yX9_at : MethodName := ⟨RX9, "at", "(I)I"⟩
abbrev cX9_spells : ByteArray := prog_11_method_4_code
def yX9_spells : MethodName := ⟨RX9, "spells", "(IILjava/lang/String;)Z"⟩
def RX10 : String := "LanternHouse$Tokens"
def TX10 : u_T := fun k => match k with
  | 0 => ("LanternHouse$Tokens", "sorts", "[I", true)
  | 1 => ("LanternHouse$Tokens", "places", "[I", true)
  | _ => ("LanternHouse$Tokens", "values", "[J", true)
def tyX10 : Nat → FieldType := fun k => match k with
  | 0 => .array .int
  | 1 => .array .int
  | _ => .array .long
abbrev wsX100 : List Cond := u_ws RX10 TX10 3
theorem nmX10 : ∀ a, a < 3 → ∀ b, b < 3 → a ≠ b → (TX10 a).2.1 ≠ (TX10 b).2.1 := by decide +kernel
theorem tyX10_ok : ∀ k, k < 3 → parseFieldDescriptor (TX10 k).2.2.1 = some (tyX10 k) := by decide +kernel
abbrev cX10_init : ByteArray := prog_12_method_1_code
def yX10_init : MethodName := ⟨RX10, "<init>", "()V"⟩
abbrev cX10_scan : ByteArray := prog_12_method_2_code
def yX10_scan : MethodName := ⟨RX10, "scan", "(LLanternHouse$Tape;)V"⟩
abbrev cX10_isVar : ByteArray := prog_12_method_3_code
def yX10_isVar : MethodName := ⟨RX10, "isVar", "(I)Z"⟩
abbrev cX10_isOperator : ByteArray := prog_12_method_4_code
def yX10_isOperator : MethodName := ⟨RX10, "isOperator", "(I)Z"⟩
abbrev cX10_isRelation : ByteArray := prog_12_method_5_code
def yX10_isRelation : MethodName := ⟨RX10, "isRelation", "(I)Z"⟩
abbrev cX10_isBlank : ByteArray := prog_12_method_6_code
def yX10_isBlank : MethodName := ⟨RX10, "isBlank", "(I)Z"⟩
abbrev cX10_isLetter : ByteArray := prog_12_method_7_code
def yX10_isLetter : MethodName := ⟨RX10, "isLetter", "(I)Z"⟩
abbrev cX10_isDigit : ByteArray := prog_12_method_8_code
def yX10_isDigit : MethodName := ⟨RX10, "isDigit", "(I)Z"⟩
abbrev cX10_pastBlanks : ByteArray := prog_12_method_9_code
def yX10_pastBlanks : MethodName := ⟨RX10, "pastBlanks", "(LLanternHouse$Tape;I)I"⟩
abbrev cX10_endOf : ByteArray := prog_12_method_10_code
def yX10_endOf : MethodName := ⟨RX10, "endOf", "(LLanternHouse$Tape;I)I"⟩
abbrev cX10_sortOf : ByteArray := prog_12_method_11_code
def yX10_sortOf : MethodName := ⟨RX10, "sortOf", "(LLanternHouse$Tape;II)I"⟩
abbrev cX10_signSort : ByteArray := prog_12_method_12_code
def yX10_signSort : MethodName := ⟨RX10, "signSort", "(IZ)I"⟩
abbrev cX10_wordSort : ByteArray := prog_12_method_13_code
def yX10_wordSort : MethodName := ⟨RX10, "wordSort", "(LLanternHouse$Tape;II)I"⟩
abbrev cX10_valueOf : ByteArray := prog_12_method_14_code
def yX10_valueOf : MethodName := ⟨RX10, "valueOf", "(LLanternHouse$Tape;II)J"⟩
def RX11 : String := "LanternHouse"
def TX11 : u_T := fun k => match k with
  | 0 => ("LanternHouse", "tape", "LLanternHouse$Tape;", true)
  | 1 => ("LanternHouse", "tokens", "LLanternHouse$Tokens;", true)
  | 2 => ("LanternHouse", "reader", "LLanternHouse$Reader;", true)
  | 3 => ("LanternHouse", "rails", "LLanternHouse$Rails;", true)
  | 4 => ("LanternHouse", "stock", "LLanternHouse$Stock;", true)
  | 5 => ("LanternHouse", "facts", "LLanternHouse$Facts;", true)
  | 6 => ("LanternHouse", "shows", "LLanternHouse$Shows;", true)
  | 7 => ("LanternHouse", "keeper", "LLanternHouse$Keeper;", true)
  | 8 => ("LanternHouse", "lastShowing", "LLanternHouse$Showing;", true)
  | 9 => ("LanternHouse", "draft", "LLanternHouse$Lectures;", false)
  | 10 => ("LanternHouse", "made", "LLanternHouse$Plan;", false)
  | 11 => ("LanternHouse", "trial", "LLanternHouse$Plan;", false)
  | _ => ("LanternHouse", "isMade", "Z", false)
def tyX11 : Nat → FieldType := fun k => match k with
  | 0 => .object "LanternHouse$Tape"
  | 1 => .object "LanternHouse$Tokens"
  | 2 => .object "LanternHouse$Reader"
  | 3 => .object "LanternHouse$Rails"
  | 4 => .object "LanternHouse$Stock"
  | 5 => .object "LanternHouse$Facts"
  | 6 => .object "LanternHouse$Shows"
  | 7 => .object "LanternHouse$Keeper"
  | 8 => .object "LanternHouse$Showing"
  | 9 => .object "LanternHouse$Lectures"
  | 10 => .object "LanternHouse$Plan"
  | 11 => .object "LanternHouse$Plan"
  | _ => .boolean
abbrev wsX110 : List Cond := u_ws RX11 TX11 13
theorem nmX11 : ∀ a, a < 13 → ∀ b, b < 13 → a ≠ b → (TX11 a).2.1 ≠ (TX11 b).2.1 := by decide +kernel
theorem tyX11_ok : ∀ k, k < 13 → parseFieldDescriptor (TX11 k).2.2.1 = some (tyX11 k) := by decide +kernel
abbrev cX11_init : ByteArray := prog_1_method_1_code
def yX11_init : MethodName := ⟨RX11, "<init>", "()V"⟩
abbrev cX11_feed : ByteArray := prog_1_method_2_code
def yX11_feed : MethodName := ⟨RX11, "feed", "(IIIII)I"⟩
abbrev cX11_back : ByteArray := prog_1_method_3_code
def yX11_back : MethodName := ⟨RX11, "back", "(I)I"⟩
abbrev cX11_read : ByteArray := prog_1_method_4_code
def yX11_read : MethodName := ⟨RX11, "read", "()I"⟩
abbrev cX11_place : ByteArray := prog_1_method_5_code
def yX11_place : MethodName := ⟨RX11, "place", "()I"⟩
abbrev cX11_hall : ByteArray := prog_1_method_6_code
def yX11_hall : MethodName := ⟨RX11, "hall", "()I"⟩
abbrev cX11_train : ByteArray := prog_1_method_7_code
def yX11_train : MethodName := ⟨RX11, "train", "(IIII)I"⟩
abbrev cX11_plate : ByteArray := prog_1_method_8_code
def yX11_plate : MethodName := ⟨RX11, "plate", "(I)I"⟩
abbrev cX11_cleaning : ByteArray := prog_1_method_9_code
def yX11_cleaning : MethodName := ⟨RX11, "cleaning", "(I)Z"⟩
abbrev cX11_cancel : ByteArray := prog_1_method_10_code
def yX11_cancel : MethodName := ⟨RX11, "cancel", "(II)I"⟩
abbrev cX11_look : ByteArray := prog_1_method_11_code
def yX11_look : MethodName := ⟨RX11, "look", "(IIZ)I"⟩
abbrev cX11_show : ByteArray := prog_1_method_12_code
def yX11_show : MethodName := ⟨RX11, "show", "(IIIII)I"⟩
abbrev cX11_way : ByteArray := prog_1_method_13_code
def yX11_way : MethodName := ⟨RX11, "way", "(IIII)I"⟩
abbrev cX11_broken : ByteArray := prog_1_method_14_code
def yX11_broken : MethodName := ⟨RX11, "broken", "(III)I"⟩
abbrev cX11_can : ByteArray := prog_1_method_15_code
def yX11_can : MethodName := ⟨RX11, "can", "(II)I"⟩
abbrev cX11_make : ByteArray := prog_1_method_16_code
def yX11_make : MethodName := ⟨RX11, "make", "(I)I"⟩
abbrev cX11_mend : ByteArray := prog_1_method_17_code
def yX11_mend : MethodName := ⟨RX11, "mend", "(I)I"⟩
abbrev cX11_told : ByteArray := prog_1_method_18_code
def yX11_told : MethodName := ⟨RX11, "told", "(II)I"⟩
abbrev cX11_cue : ByteArray := prog_1_method_19_code
def yX11_cue : MethodName := ⟨RX11, "cue", "(III)I"⟩
abbrev cX11_showing : ByteArray := prog_1_method_20_code
def yX11_showing : MethodName := ⟨RX11, "showing", "(II)I"⟩
abbrev cX11_blame : ByteArray := prog_1_method_21_code
def yX11_blame : MethodName := ⟨RX11, "blame", "(II)I"⟩
abbrev cX11_where : ByteArray := prog_1_method_22_code
def yX11_where : MethodName := ⟨RX11, "where", "(II)I"⟩
abbrev cX11_count : ByteArray := prog_1_method_23_code
def yX11_count : MethodName := ⟨RX11, "count", "(I)I"⟩
abbrev cX11_isPlate : ByteArray := prog_1_method_24_code
def yX11_isPlate : MethodName := ⟨RX11, "isPlate", "(I)Z"⟩
abbrev cX11_isHour : ByteArray := prog_1_method_25_code
def yX11_isHour : MethodName := ⟨RX11, "isHour", "(I)Z"⟩
abbrev cX11_isKept : ByteArray := prog_1_method_26_code
def yX11_isKept : MethodName := ⟨RX11, "isKept", "(I)Z"⟩
abbrev cX11_settle : ByteArray := prog_1_method_27_code
def yX11_settle : MethodName := ⟨RX11, "settle", "(II)V"⟩
abbrev cX11_changes : ByteArray := prog_1_method_28_code
def yX11_changes : MethodName := ⟨RX11, "changes", "(II)I"⟩
def RX12 : String := "LanternHouseModel"
def TX12 : u_T := fun k => match k with
  | 0 => ("LanternHouseModel", "thrown", "I", false)
  | 1 => ("LanternHouseModel", "tape", "[B", true)
  | 2 => ("LanternHouseModel", "taped", "I", false)
  | 3 => ("LanternHouseModel", "text", "[B", true)
  | 4 => ("LanternHouseModel", "size", "I", false)
  | 5 => ("LanternHouseModel", "tKind", "[I", true)
  | 6 => ("LanternHouseModel", "tPlace", "[I", true)
  | 7 => ("LanternHouseModel", "tValue", "[I", true)
  | 8 => ("LanternHouseModel", "tName", "[J", true)
  | 9 => ("LanternHouseModel", "keys", "[J", true)
  | 10 => ("LanternHouseModel", "tokens", "I", false)
  | 11 => ("LanternHouseModel", "t", "I", false)
  | 12 => ("LanternHouseModel", "open", "I", false)
  | 13 => ("LanternHouseModel", "fault", "I", false)
  | 14 => ("LanternHouseModel", "faultPlace", "I", false)
  | 15 => ("LanternHouseModel", "worst", "I", false)
  | 16 => ("LanternHouseModel", "worstPlace", "I", false)
  | 17 => ("LanternHouseModel", "place", "I", false)
  | 18 => ("LanternHouseModel", "live", "I", false)
  | 19 => ("LanternHouseModel", "side", "I", false)
  | 20 => ("LanternHouseModel", "lectures", "[I", true)
  | 21 => ("LanternHouseModel", "lectName", "[J", true)
  | 22 => ("LanternHouseModel", "cues", "[I", true)
  | 23 => ("LanternHouseModel", "hires", "[I", true)
  | 24 => ("LanternHouseModel", "cueMust", "[Z", true)
  | 25 => ("LanternHouseModel", "cueKinds", "[I", true)
  | 26 => ("LanternHouseModel", "cueKind", "[I", true)
  | 27 => ("LanternHouseModel", "cueFor", "[I", true)
  | 28 => ("LanternHouseModel", "cueFade", "[I", true)
  | 29 => ("LanternHouseModel", "hireFrom", "[I", true)
  | 30 => ("LanternHouseModel", "hireTo", "[I", true)
  | 31 => ("LanternHouseModel", "hireFirst", "[I", true)
  | 32 => ("LanternHouseModel", "hireLast", "[I", true)
  | 33 => ("LanternHouseModel", "relations", "[I", true)
  | 34 => ("LanternHouseModel", "relSort", "[I", true)
  | 35 => ("LanternHouseModel", "relLeft", "[I", true)
  | 36 => ("LanternHouseModel", "relRight", "[I", true)
  | 37 => ("LanternHouseModel", "relEnd", "[I", true)
  | 38 => ("LanternHouseModel", "codes", "I", false)
  | 39 => ("LanternHouseModel", "code", "[I", true)
  | 40 => ("LanternHouseModel", "codeInt", "[I", true)
  | 41 => ("LanternHouseModel", "waits", "[I", true)
  | 42 => ("LanternHouseModel", "waiting", "I", false)
  | 43 => ("LanternHouseModel", "halls", "I", false)
  | 44 => ("LanternHouseModel", "trains", "I", false)
  | 45 => ("LanternHouseModel", "trainFrom", "[I", true)
  | 46 => ("LanternHouseModel", "trainTo", "[I", true)
  | 47 => ("LanternHouseModel", "trainHour", "[I", true)
  | 48 => ("LanternHouseModel", "trainTakes", "[I", true)
  | 49 => ("LanternHouseModel", "plates", "I", false)
  | 50 => ("LanternHouseModel", "kind", "[I", true)
  | 51 => ("LanternHouseModel", "cleaning", "I", false)
  | 52 => ("LanternHouseModel", "facts", "I", false)
  | 53 => ("LanternHouseModel", "factSort", "[I", true)
  | 54 => ("LanternHouseModel", "factOf", "[I", true)
  | 55 => ("LanternHouseModel", "factAt", "[I", true)
  | 56 => ("LanternHouseModel", "stillFor", "I", false)
  | 57 => ("LanternHouseModel", "still", "[Z", true)
  | 58 => ("LanternHouseModel", "soonest", "[I", true)
  | 59 => ("LanternHouseModel", "shows", "I", false)
  | 60 => ("LanternHouseModel", "night", "[I", true)
  | 61 => ("LanternHouseModel", "where", "[I", true)
  | 62 => ("LanternHouseModel", "lecture", "[I", true)
  | 63 => ("LanternHouseModel", "gas", "[I", true)
  | 64 => ("LanternHouseModel", "worth", "[I", true)
  | 65 => ("LanternHouseModel", "gets", "[I", true)
  | 66 => ("LanternHouseModel", "getsAs", "[I", true)
  | 67 => ("LanternHouseModel", "getsFrom", "[I", true)
  | 68 => ("LanternHouseModel", "getsAt", "[I", true)
  | 69 => ("LanternHouseModel", "missed", "I", false)
  | 70 => ("LanternHouseModel", "instead", "I", false)
  | 71 => ("LanternHouseModel", "plateAt", "[I", true)
  | 72 => ("LanternHouseModel", "plateFree", "[I", true)
  | 73 => ("LanternHouseModel", "inShow", "[Z", true)
  | 74 => ("LanternHouseModel", "isMade", "Z", false)
  | 75 => ("LanternHouseModel", "made", "I", false)
  | 76 => ("LanternHouseModel", "madeMissed", "I", false)
  | 77 => ("LanternHouseModel", "madeInstead", "I", false)
  | 78 => ("LanternHouseModel", "madeGets", "[I", true)
  | 79 => ("LanternHouseModel", "madeAs", "[I", true)
  | 80 => ("LanternHouseModel", "madeFrom", "[I", true)
  | 81 => ("LanternHouseModel", "madeAt", "[I", true)
  | 82 => ("LanternHouseModel", "variables", "[I", true)
  | 83 => ("LanternHouseModel", "begins", "[I", true)
  | 84 => ("LanternHouseModel", "isShown", "[Z", true)
  | 85 => ("LanternHouseModel", "firstDark", "I", false)
  | _ => ("LanternHouseModel", "pile", "[I", true)
def tyX12 : Nat → FieldType := fun k => match k with
  | 0 => .int
  | 1 => .array .byte
  | 2 => .int
  | 3 => .array .byte
  | 4 => .int
  | 5 => .array .int
  | 6 => .array .int
  | 7 => .array .int
  | 8 => .array .long
  | 9 => .array .long
  | 10 => .int
  | 11 => .int
  | 12 => .int
  | 13 => .int
  | 14 => .int
  | 15 => .int
  | 16 => .int
  | 17 => .int
  | 18 => .int
  | 19 => .int
  | 20 => .array .int
  | 21 => .array .long
  | 22 => .array .int
  | 23 => .array .int
  | 24 => .array .boolean
  | 25 => .array .int
  | 26 => .array .int
  | 27 => .array .int
  | 28 => .array .int
  | 29 => .array .int
  | 30 => .array .int
  | 31 => .array .int
  | 32 => .array .int
  | 33 => .array .int
  | 34 => .array .int
  | 35 => .array .int
  | 36 => .array .int
  | 37 => .array .int
  | 38 => .int
  | 39 => .array .int
  | 40 => .array .int
  | 41 => .array .int
  | 42 => .int
  | 43 => .int
  | 44 => .int
  | 45 => .array .int
  | 46 => .array .int
  | 47 => .array .int
  | 48 => .array .int
  | 49 => .int
  | 50 => .array .int
  | 51 => .int
  | 52 => .int
  | 53 => .array .int
  | 54 => .array .int
  | 55 => .array .int
  | 56 => .int
  | 57 => .array .boolean
  | 58 => .array .int
  | 59 => .int
  | 60 => .array .int
  | 61 => .array .int
  | 62 => .array .int
  | 63 => .array .int
  | 64 => .array .int
  | 65 => .array .int
  | 66 => .array .int
  | 67 => .array .int
  | 68 => .array .int
  | 69 => .int
  | 70 => .int
  | 71 => .array .int
  | 72 => .array .int
  | 73 => .array .boolean
  | 74 => .boolean
  | 75 => .int
  | 76 => .int
  | 77 => .int
  | 78 => .array .int
  | 79 => .array .int
  | 80 => .array .int
  | 81 => .array .int
  | 82 => .array .int
  | 83 => .array .int
  | 84 => .array .boolean
  | 85 => .int
  | _ => .array .int
abbrev wsX120 : List Cond := u_ws RX12 TX12 87
theorem nmX12 : ∀ a, a < 87 → ∀ b, b < 87 → a ≠ b → (TX12 a).2.1 ≠ (TX12 b).2.1 := by decide +kernel
theorem tyX12_ok : ∀ k, k < 87 → parseFieldDescriptor (TX12 k).2.2.1 = some (tyX12 k) := by decide +kernel
abbrev cX12_init : ByteArray := prog_14_method_2_code
def yX12_init : MethodName := ⟨RX12, "<init>", "()V"⟩
abbrev cX12_feed : ByteArray := prog_14_method_3_code
def yX12_feed : MethodName := ⟨RX12, "feed", "(IIIII)I"⟩
abbrev cX12_put : ByteArray := prog_14_method_4_code
def yX12_put : MethodName := ⟨RX12, "put", "(I)V"⟩
abbrev cX12_back : ByteArray := prog_14_method_5_code
def yX12_back : MethodName := ⟨RX12, "back", "(I)I"⟩
abbrev cX12_at : ByteArray := prog_14_method_6_code
def yX12_at : MethodName := ⟨RX12, "at", "(I)I"⟩
abbrev cX12_isDigit : ByteArray := prog_14_method_7_code
def yX12_isDigit : MethodName := ⟨RX12, "isDigit", "(I)Z"⟩
abbrev cX12_isLetter : ByteArray := prog_14_method_8_code
def yX12_isLetter : MethodName := ⟨RX12, "isLetter", "(I)Z"⟩
abbrev cX12_more : ByteArray := prog_14_method_9_code
def yX12_more : MethodName := ⟨RX12, "more", "(JI)J"⟩
abbrev cX12_word : ByteArray := prog_14_method_10_code
def yX12_word : MethodName := ⟨RX12, "word", "(IIIIIIII)J"⟩
abbrev cX12_token : ByteArray := prog_14_method_11_code
def yX12_token : MethodName := ⟨RX12, "token", "(IIIJ)V"⟩
abbrev cX12_cut : ByteArray := prog_14_method_12_code
def yX12_cut : MethodName := ⟨RX12, "cut", "()V"⟩
abbrev cX12_sign : ByteArray := prog_14_method_13_code
def yX12_sign : MethodName := ⟨RX12, "sign", "(III)I"⟩
abbrev cX12_is : ByteArray := prog_14_method_14_code
def yX12_is : MethodName := ⟨RX12, "is", "(I)Z"⟩
abbrev cX12_fail : ByteArray := prog_14_method_15_code
def yX12_fail : MethodName := ⟨RX12, "fail", "(I)V"⟩
abbrev cX12_wrong : ByteArray := prog_14_method_16_code
def yX12_wrong : MethodName := ⟨RX12, "wrong", "(II)V"⟩
abbrev cX12_next : ByteArray := prog_14_method_17_code
def yX12_next : MethodName := ⟨RX12, "next", "()V"⟩
abbrev cX12_must : ByteArray := prog_14_method_18_code
def yX12_must : MethodName := ⟨RX12, "must", "(I)V"⟩
abbrev cX12_read : ByteArray := prog_14_method_19_code
def yX12_read : MethodName := ⟨RX12, "read", "()I"⟩
abbrev cX12_place : ByteArray := prog_14_method_20_code
def yX12_place : MethodName := ⟨RX12, "place", "()I"⟩
abbrev cX12_tellLecture : ByteArray := prog_14_method_21_code
def yX12_tellLecture : MethodName := ⟨RX12, "tellLecture", "()V"⟩
abbrev cX12_tellCue : ByteArray := prog_14_method_22_code
def yX12_tellCue : MethodName := ⟨RX12, "tellCue", "(I)V"⟩
abbrev cX12_tellHire : ByteArray := prog_14_method_23_code
def yX12_tellHire : MethodName := ⟨RX12, "tellHire", "(I)V"⟩
abbrev cX12_relation : ByteArray := prog_14_method_24_code
def yX12_relation : MethodName := ⟨RX12, "relation", "()V"⟩
abbrev cX12_emit : ByteArray := prog_14_method_25_code
def yX12_emit : MethodName := ⟨RX12, "emit", "(II)V"⟩
abbrev cX12_comesOut : ByteArray := prog_14_method_26_code
def yX12_comesOut : MethodName := ⟨RX12, "comesOut", "(Z)V"⟩
abbrev cX12_expression : ByteArray := prog_14_method_27_code
def yX12_expression : MethodName := ⟨RX12, "expression", "()V"⟩
abbrev cX12_isHall : ByteArray := prog_14_method_28_code
def yX12_isHall : MethodName := ⟨RX12, "isHall", "(I)Z"⟩
abbrev cX12_isPlate : ByteArray := prog_14_method_29_code
def yX12_isPlate : MethodName := ⟨RX12, "isPlate", "(I)Z"⟩
abbrev cX12_isHour : ByteArray := prog_14_method_30_code
def yX12_isHour : MethodName := ⟨RX12, "isHour", "(I)Z"⟩
abbrev cX12_isKnown : ByteArray := prog_14_method_31_code
def yX12_isKnown : MethodName := ⟨RX12, "isKnown", "(I)Z"⟩
abbrev cX12_hall : ByteArray := prog_14_method_32_code
def yX12_hall : MethodName := ⟨RX12, "hall", "()I"⟩
abbrev cX12_train : ByteArray := prog_14_method_33_code
def yX12_train : MethodName := ⟨RX12, "train", "(IIII)I"⟩
abbrev cX12_plate : ByteArray := prog_14_method_34_code
def yX12_plate : MethodName := ⟨RX12, "plate", "(I)I"⟩
abbrev cX12_cleaning : ByteArray := prog_14_method_35_code
def yX12_cleaning : MethodName := ⟨RX12, "cleaning", "(I)Z"⟩
abbrev cX12_fact : ByteArray := prog_14_method_36_code
def yX12_fact : MethodName := ⟨RX12, "fact", "(III)I"⟩
abbrev cX12_cancel : ByteArray := prog_14_method_37_code
def yX12_cancel : MethodName := ⟨RX12, "cancel", "(II)I"⟩
abbrev cX12_look : ByteArray := prog_14_method_38_code
def yX12_look : MethodName := ⟨RX12, "look", "(IIZ)I"⟩
abbrev cX12_isBroken : ByteArray := prog_14_method_39_code
def yX12_isBroken : MethodName := ⟨RX12, "isBroken", "(III)Z"⟩
abbrev cX12_broken : ByteArray := prog_14_method_40_code
def yX12_broken : MethodName := ⟨RX12, "broken", "(III)I"⟩
abbrev cX12_knows : ByteArray := prog_14_method_41_code
def yX12_knows : MethodName := ⟨RX12, "knows", "(I)V"⟩
abbrev cX12_comesBy : ByteArray := prog_14_method_42_code
def yX12_comesBy : MethodName := ⟨RX12, "comesBy", "(III)I"⟩
abbrev cX12_wayTo : ByteArray := prog_14_method_43_code
def yX12_wayTo : MethodName := ⟨RX12, "wayTo", "(III)I"⟩
abbrev cX12_way : ByteArray := prog_14_method_44_code
def yX12_way : MethodName := ⟨RX12, "way", "(IIII)I"⟩
abbrev cX12_show : ByteArray := prog_14_method_45_code
def yX12_show : MethodName := ⟨RX12, "show", "(IIIII)I"⟩
abbrev cX12_keeps : ByteArray := prog_14_method_46_code
def yX12_keeps : MethodName := ⟨RX12, "keeps", "(II)Z"⟩
abbrev cX12_keepsShow : ByteArray := prog_14_method_47_code
def yX12_keepsShow : MethodName := ⟨RX12, "keepsShow", "(II)Z"⟩
abbrev cX12_takes : ByteArray := prog_14_method_48_code
def yX12_takes : MethodName := ⟨RX12, "takes", "(IIIII)V"⟩
abbrev cX12_worthOf : ByteArray := prog_14_method_49_code
def yX12_worthOf : MethodName := ⟨RX12, "worthOf", "(I)I"⟩
abbrev cX12_can : ByteArray := prog_14_method_50_code
def yX12_can : MethodName := ⟨RX12, "can", "(II)I"⟩
abbrev cX12_bits : ByteArray := prog_14_method_51_code
def yX12_bits : MethodName := ⟨RX12, "bits", "(I)I"⟩
abbrev cX12_makes : ByteArray := prog_14_method_52_code
def yX12_makes : MethodName := ⟨RX12, "makes", "(IZ)V"⟩
abbrev cX12_isAhead : ByteArray := prog_14_method_53_code
def yX12_isAhead : MethodName := ⟨RX12, "isAhead", "(IIIIZ)Z"⟩
abbrev cX12_make : ByteArray := prog_14_method_54_code
def yX12_make : MethodName := ⟨RX12, "make", "(I)I"⟩
abbrev cX12_mend : ByteArray := prog_14_method_55_code
def yX12_mend : MethodName := ⟨RX12, "mend", "(I)I"⟩
abbrev cX12_isKept : ByteArray := prog_14_method_56_code
def yX12_isKept : MethodName := ⟨RX12, "isKept", "(I)Z"⟩
abbrev cX12_told : ByteArray := prog_14_method_57_code
def yX12_told : MethodName := ⟨RX12, "told", "(II)I"⟩
abbrev cX12_goesThrough : ByteArray := prog_14_method_58_code
def yX12_goesThrough : MethodName := ⟨RX12, "goesThrough", "(I)V"⟩
abbrev cX12_value : ByteArray := prog_14_method_59_code
def yX12_value : MethodName := ⟨RX12, "value", "(II)I"⟩
abbrev cX12_holds : ByteArray := prog_14_method_60_code
def yX12_holds : MethodName := ⟨RX12, "holds", "(I)Z"⟩
abbrev cX12_hireOf : ByteArray := prog_14_method_61_code
def yX12_hireOf : MethodName := ⟨RX12, "hireOf", "(I)I"⟩
abbrev cX12_cue : ByteArray := prog_14_method_62_code
def yX12_cue : MethodName := ⟨RX12, "cue", "(III)I"⟩
abbrev cX12_showing : ByteArray := prog_14_method_63_code
def yX12_showing : MethodName := ⟨RX12, "showing", "(II)I"⟩
abbrev cX12_cueOf : ByteArray := prog_14_method_64_code
def yX12_cueOf : MethodName := ⟨RX12, "cueOf", "(II)I"⟩
abbrev cX12_blame : ByteArray := prog_14_method_65_code
def yX12_blame : MethodName := ⟨RX12, "blame", "(II)I"⟩
abbrev cX12_where : ByteArray := prog_14_method_66_code
def yX12_where : MethodName := ⟨RX12, "where", "(II)I"⟩
abbrev cX12_count : ByteArray := prog_14_method_67_code
def yX12_count : MethodName := ⟨RX12, "count", "(I)I"⟩
def RJ6 : String := "java/lang/Integer"
def TJ6 : u_T := fun k => match k with
  | _ => ("", "", "", false)
def tyJ6 : Nat → FieldType := fun k => match k with
  | _ => .int
abbrev cJ6_bitCount_0f7a4 : ByteArray := prog_15_method_49_code
def yJ6_bitCount_0f7a4 : MethodName := ⟨RJ6, "bitCount", "(I)I"⟩
def RJ9 : String := "java/lang/Math"
def TJ9 : u_T := fun k => match k with
  | _ => ("", "", "", false)
def tyJ9 : Nat → FieldType := fun k => match k with
  | _ => .int
abbrev cJ9_max_7cf53 : ByteArray := prog_16_method_65_code
def yJ9_max_7cf53 : MethodName := ⟨RJ9, "max", "(II)I"⟩
def RJ0 : String := "java/lang/String"
def TJ0 : u_T := fun k => match k with
  | _ => ("", "", "", false)
def tyJ0 : Nat → FieldType := fun k => match k with
  | _ => .int
abbrev cJ0_length_8abf5 : ByteArray := prog_17_method_54_code
def yJ0_length_8abf5 : MethodName := ⟨RJ0, "length", "()I"⟩
abbrev cJ0_charAt_5068e : ByteArray := prog_17_method_56_code
def yJ0_charAt_5068e : MethodName := ⟨RJ0, "charAt", "(I)C"⟩
abbrev cJ0_coder_7d493 : ByteArray := prog_17_method_152_code
def yJ0_coder_7d493 : MethodName := ⟨RJ0, "coder", "()B"⟩
abbrev cJ0_isLatin1_aae02 : ByteArray := prog_17_method_154_code
def yJ0_isLatin1_aae02 : MethodName := ⟨RJ0, "isLatin1", "()Z"⟩
abbrev cJ0_checkIndex_df160 : ByteArray := prog_17_method_155_code
def yJ0_checkIndex_df160 : MethodName := ⟨RJ0, "checkIndex", "(II)V"⟩
def RJ1 : String := "java/lang/StringLatin1"
def TJ1 : u_T := fun k => match k with
  | _ => ("", "", "", false)
def tyJ1 : Nat → FieldType := fun k => match k with
  | _ => .int
abbrev cJ1_charAt_3b067 : ByteArray := prog_18_method_2_code
def yJ1_charAt_3b067 : MethodName := ⟨RJ1, "charAt", "([BI)C"⟩
def RJ2 : String := "java/lang/StringUTF16"
def TJ2 : u_T := fun k => match k with
  | _ => ("", "", "", false)
def tyJ2 : Nat → FieldType := fun k => match k with
  | _ => .int
abbrev cJ2_getChar_3b067 : ByteArray := prog_19_method_5_code
def yJ2_getChar_3b067 : MethodName := ⟨RJ2, "getChar", "([BI)C"⟩
abbrev cJ2_length_9d52b : ByteArray := prog_19_method_6_code
def yJ2_length_9d52b : MethodName := ⟨RJ2, "length", "([B)I"⟩
abbrev cJ2_charAt_3b067 : ByteArray := prog_19_method_83_code
def yJ2_charAt_3b067 : MethodName := ⟨RJ2, "charAt", "([BI)C"⟩
abbrev cJ2_checkIndex_2214a : ByteArray := prog_19_method_91_code
def yJ2_checkIndex_2214a : MethodName := ⟨RJ2, "checkIndex", "(I[B)V"⟩
def RJ7 : String := "java/util/Arrays"
def TJ7 : u_T := fun k => match k with
  | _ => ("", "", "", false)
def tyJ7 : Nat → FieldType := fun k => match k with
  | _ => .int
abbrev cJ7_fill_d0a16 : ByteArray := prog_20_method_101_code
def yJ7_fill_d0a16 : MethodName := ⟨RJ7, "fill", "([JJ)V"⟩
abbrev cJ7_fill_53178 : ByteArray := prog_20_method_103_code
def yJ7_fill_53178 : MethodName := ⟨RJ7, "fill", "([II)V"⟩
def RJ3 : String := "jdk/internal/util/Preconditions"
def TJ3 : u_T := fun k => match k with
  | _ => ("", "", "", false)
def tyJ3 : Nat → FieldType := fun k => match k with
  | _ => .int
abbrev cJ3_checkIndex_8e157 : ByteArray := prog_21_method_11_code
def yJ3_checkIndex_8e157 : MethodName := ⟨RJ3, "checkIndex", "(IILjava/util/function/BiFunction;)I"⟩
def RL : String := "LanternHouseLaw"
abbrev cL_law : ByteArray := code
def yL_law : MethodName := ⟨RL, "law", "([I)Z"⟩
abbrev vwCl : List vw_C := [(RX0, TX0, 5), (RX1, TX1, 8), (RX2, TX2, 13), (RX3, TX3, 8), (RX4, TX4, 8), (RX5, TX5, 11), (RX6, TX6, 12), (RX7, TX7, 8), (RX8, TX8, 3), (RX9, TX9, 2), (RX10, TX10, 3), (RX11, TX11, 13), (RX12, TX12, 87)]


