theorem lf_0 : ∀ w, w ∈ tables_1_1 → w ∈ lw_tbl := fun w h => List.mem_append_right _ (show w ∈ tables_1 from List.mem_append_left _ h)
theorem lf_1 : ∀ w, w ∈ tables_1_2 → w ∈ lw_tbl := fun w h => List.mem_append_right _ (show w ∈ tables_1 from List.mem_append_right _ (List.mem_append_left _ h))
theorem lf_2 : ∀ w, w ∈ tables_1_3 → w ∈ lw_tbl := fun w h => List.mem_append_right _ (show w ∈ tables_1 from List.mem_append_right _ (List.mem_append_right _ (List.mem_append_left _ h)))
theorem lf_3 : ∀ w, w ∈ tables_1_4 → w ∈ lw_tbl := fun w h => List.mem_append_right _ (show w ∈ tables_1 from List.mem_append_right _ (List.mem_append_right _ (List.mem_append_right _ (List.mem_append_left _ h))))
theorem lf_4 : ∀ w, w ∈ tables_1_5 → w ∈ lw_tbl := fun w h => List.mem_append_right _ (show w ∈ tables_1 from List.mem_append_right _ (List.mem_append_right _ (List.mem_append_right _ (List.mem_append_right _ (List.mem_append_left _ h)))))
theorem lf_5 : ∀ w, w ∈ tables_1_6 → w ∈ lw_tbl := fun w h => List.mem_append_right _ (show w ∈ tables_1 from List.mem_append_right _ (List.mem_append_right _ (List.mem_append_right _ (List.mem_append_right _ (List.mem_append_right _ (List.mem_append_left _ h))))))
theorem lf_6 : ∀ w, w ∈ tables_1_7 → w ∈ lw_tbl := fun w h => List.mem_append_right _ (show w ∈ tables_1 from List.mem_append_right _ (List.mem_append_right _ (List.mem_append_right _ (List.mem_append_right _ (List.mem_append_right _ (List.mem_append_right _ (h)))))))
set_option maxRecDepth 20000 in
theorem tw_0 : (.lays "LanternHouse$Facts" "LanternHouse$Facts" "size" "I" : Cond) ∈ lw_tbl := lf_0 _ (List.mem_of_getElem? (i := 184) (by decide +kernel))
set_option maxRecDepth 20000 in
theorem tw_1 : (.laysFinal "LanternHouse$Facts" "LanternHouse$Facts" "latest" "[I" : Cond) ∈ lw_tbl := lf_0 _ (List.mem_of_getElem? (i := 182) (by decide +kernel))
set_option maxRecDepth 20000 in
theorem tw_2 : (.laysFinal "LanternHouse$Facts" "LanternHouse$Facts" "times" "[I" : Cond) ∈ lw_tbl := lf_0 _ (List.mem_of_getElem? (i := 180) (by decide +kernel))
set_option maxRecDepth 20000 in
theorem tw_3 : (.laysFinal "LanternHouse$Facts" "LanternHouse$Facts" "subjects" "[I" : Cond) ∈ lw_tbl := lf_0 _ (List.mem_of_getElem? (i := 178) (by decide +kernel))
set_option maxRecDepth 20000 in
theorem tw_4 : (.laysFinal "LanternHouse$Facts" "LanternHouse$Facts" "sorts" "[I" : Cond) ∈ lw_tbl := lf_0 _ (List.mem_of_getElem? (i := 176) (by decide +kernel))
set_option maxRecDepth 20000 in
theorem in_wsX00 : ∀ w ∈ wsX00, w ∈ lw_tbl := by
  show ∀ w ∈ ([.laysFinal "LanternHouse$Facts" "LanternHouse$Facts" "sorts" "[I", .laysFinal "LanternHouse$Facts" "LanternHouse$Facts" "subjects" "[I", .laysFinal "LanternHouse$Facts" "LanternHouse$Facts" "times" "[I", .laysFinal "LanternHouse$Facts" "LanternHouse$Facts" "latest" "[I", .lays "LanternHouse$Facts" "LanternHouse$Facts" "size" "I"] : List Cond), w ∈ lw_tbl
  exact List.forall_mem_cons.mpr ⟨tw_4, List.forall_mem_cons.mpr ⟨tw_3, List.forall_mem_cons.mpr ⟨tw_2, List.forall_mem_cons.mpr ⟨tw_1, List.forall_mem_cons.mpr ⟨tw_0, fun _ h => absurd h List.not_mem_nil⟩⟩⟩⟩⟩
set_option maxRecDepth 20000 in
theorem tw_5 : (.lays "LanternHouse$Keeper" "LanternHouse$Keeper" "cleaningHours" "I" : Cond) ∈ lw_tbl := lf_1 _ (List.mem_of_getElem? (i := 96) (by decide +kernel))
set_option maxRecDepth 20000 in
theorem tw_6 : (.laysFinal "LanternHouse$Keeper" "LanternHouse$Keeper" "freeAt" "[I" : Cond) ∈ lw_tbl := lf_1 _ (List.mem_of_getElem? (i := 94) (by decide +kernel))
set_option maxRecDepth 20000 in
theorem tw_7 : (.laysFinal "LanternHouse$Keeper" "LanternHouse$Keeper" "broken" "[I" : Cond) ∈ lw_tbl := lf_1 _ (List.mem_of_getElem? (i := 92) (by decide +kernel))
set_option maxRecDepth 20000 in
theorem tw_8 : (.laysFinal "LanternHouse$Keeper" "LanternHouse$Keeper" "arrivals" "[[I" : Cond) ∈ lw_tbl := lf_1 _ (List.mem_of_getElem? (i := 90) (by decide +kernel))
set_option maxRecDepth 20000 in
theorem tw_9 : (.laysFinal "LanternHouse$Keeper" "LanternHouse$Keeper" "rails" "LLanternHouse$Rails;" : Cond) ∈ lw_tbl := lf_1 _ (List.mem_of_getElem? (i := 88) (by decide +kernel))
set_option maxRecDepth 20000 in
theorem tw_10 : (.laysFinal "LanternHouse$Keeper" "LanternHouse$Keeper" "facts" "LLanternHouse$Facts;" : Cond) ∈ lw_tbl := lf_1 _ (List.mem_of_getElem? (i := 86) (by decide +kernel))
set_option maxRecDepth 20000 in
theorem tw_11 : (.laysFinal "LanternHouse$Keeper" "LanternHouse$Keeper" "stock" "LLanternHouse$Stock;" : Cond) ∈ lw_tbl := lf_1 _ (List.mem_of_getElem? (i := 84) (by decide +kernel))
set_option maxRecDepth 20000 in
theorem tw_12 : (.laysFinal "LanternHouse$Keeper" "LanternHouse$Keeper" "shows" "LLanternHouse$Shows;" : Cond) ∈ lw_tbl := lf_1 _ (List.mem_of_getElem? (i := 82) (by decide +kernel))
set_option maxRecDepth 20000 in
theorem in_wsX10 : ∀ w ∈ wsX10, w ∈ lw_tbl := by
  show ∀ w ∈ ([.laysFinal "LanternHouse$Keeper" "LanternHouse$Keeper" "shows" "LLanternHouse$Shows;", .laysFinal "LanternHouse$Keeper" "LanternHouse$Keeper" "stock" "LLanternHouse$Stock;", .laysFinal "LanternHouse$Keeper" "LanternHouse$Keeper" "facts" "LLanternHouse$Facts;", .laysFinal "LanternHouse$Keeper" "LanternHouse$Keeper" "rails" "LLanternHouse$Rails;", .laysFinal "LanternHouse$Keeper" "LanternHouse$Keeper" "arrivals" "[[I", .laysFinal "LanternHouse$Keeper" "LanternHouse$Keeper" "broken" "[I", .laysFinal "LanternHouse$Keeper" "LanternHouse$Keeper" "freeAt" "[I", .lays "LanternHouse$Keeper" "LanternHouse$Keeper" "cleaningHours" "I"] : List Cond), w ∈ lw_tbl
  exact List.forall_mem_cons.mpr ⟨tw_12, List.forall_mem_cons.mpr ⟨tw_11, List.forall_mem_cons.mpr ⟨tw_10, List.forall_mem_cons.mpr ⟨tw_9, List.forall_mem_cons.mpr ⟨tw_8, List.forall_mem_cons.mpr ⟨tw_7, List.forall_mem_cons.mpr ⟨tw_6, List.forall_mem_cons.mpr ⟨tw_5, fun _ h => absurd h List.not_mem_nil⟩⟩⟩⟩⟩⟩⟩⟩
set_option maxRecDepth 20000 in
theorem tw_13 : (.lays "LanternHouse$Lectures" "LanternHouse$Lectures" "size" "I" : Cond) ∈ lw_tbl := lf_1 _ (List.mem_of_getElem? (i := 13) (by decide +kernel))
set_option maxRecDepth 20000 in
theorem tw_14 : (.lays "LanternHouse$Lectures" "LanternHouse$Lectures" "codeSize" "I" : Cond) ∈ lw_tbl := lf_1 _ (List.mem_of_getElem? (i := 11) (by decide +kernel))
set_option maxRecDepth 20000 in
theorem tw_15 : (.laysFinal "LanternHouse$Lectures" "LanternHouse$Lectures" "code" "[I" : Cond) ∈ lw_tbl := lf_1 _ (List.mem_of_getElem? (i := 9) (by decide +kernel))
set_option maxRecDepth 20000 in
theorem tw_16 : (.laysFinal "LanternHouse$Lectures" "LanternHouse$Lectures" "hireEnds" "[I" : Cond) ∈ lw_tbl := lf_1 _ (List.mem_of_getElem? (i := 7) (by decide +kernel))
set_option maxRecDepth 20000 in
theorem tw_17 : (.laysFinal "LanternHouse$Lectures" "LanternHouse$Lectures" "hireStarts" "[I" : Cond) ∈ lw_tbl := lf_1 _ (List.mem_of_getElem? (i := 5) (by decide +kernel))
set_option maxRecDepth 20000 in
theorem tw_18 : (.laysFinal "LanternHouse$Lectures" "LanternHouse$Lectures" "fades" "[I" : Cond) ∈ lw_tbl := lf_1 _ (List.mem_of_getElem? (i := 3) (by decide +kernel))
set_option maxRecDepth 20000 in
theorem tw_19 : (.laysFinal "LanternHouse$Lectures" "LanternHouse$Lectures" "minutes" "[I" : Cond) ∈ lw_tbl := lf_1 _ (List.mem_of_getElem? (i := 1) (by decide +kernel))
set_option maxRecDepth 20000 in
theorem tw_20 : (.laysFinal "LanternHouse$Lectures" "LanternHouse$Lectures" "kinds" "[I" : Cond) ∈ lw_tbl := lf_0 _ (List.mem_of_getElem? (i := 239) (by decide +kernel))
set_option maxRecDepth 20000 in
theorem tw_21 : (.laysFinal "LanternHouse$Lectures" "LanternHouse$Lectures" "kindCounts" "[I" : Cond) ∈ lw_tbl := lf_0 _ (List.mem_of_getElem? (i := 237) (by decide +kernel))
set_option maxRecDepth 20000 in
theorem tw_22 : (.laysFinal "LanternHouse$Lectures" "LanternHouse$Lectures" "musts" "[Z" : Cond) ∈ lw_tbl := lf_0 _ (List.mem_of_getElem? (i := 235) (by decide +kernel))
set_option maxRecDepth 20000 in
theorem tw_23 : (.laysFinal "LanternHouse$Lectures" "LanternHouse$Lectures" "hireCounts" "[I" : Cond) ∈ lw_tbl := lf_0 _ (List.mem_of_getElem? (i := 233) (by decide +kernel))
set_option maxRecDepth 20000 in
theorem tw_24 : (.laysFinal "LanternHouse$Lectures" "LanternHouse$Lectures" "cueCounts" "[I" : Cond) ∈ lw_tbl := lf_0 _ (List.mem_of_getElem? (i := 231) (by decide +kernel))
set_option maxRecDepth 20000 in
theorem tw_25 : (.laysFinal "LanternHouse$Lectures" "LanternHouse$Lectures" "names" "[J" : Cond) ∈ lw_tbl := lf_0 _ (List.mem_of_getElem? (i := 229) (by decide +kernel))
set_option maxRecDepth 20000 in
theorem in_wsX20 : ∀ w ∈ wsX20, w ∈ lw_tbl := by
  show ∀ w ∈ ([.laysFinal "LanternHouse$Lectures" "LanternHouse$Lectures" "names" "[J", .laysFinal "LanternHouse$Lectures" "LanternHouse$Lectures" "cueCounts" "[I", .laysFinal "LanternHouse$Lectures" "LanternHouse$Lectures" "hireCounts" "[I", .laysFinal "LanternHouse$Lectures" "LanternHouse$Lectures" "musts" "[Z", .laysFinal "LanternHouse$Lectures" "LanternHouse$Lectures" "kindCounts" "[I", .laysFinal "LanternHouse$Lectures" "LanternHouse$Lectures" "kinds" "[I", .laysFinal "LanternHouse$Lectures" "LanternHouse$Lectures" "minutes" "[I", .laysFinal "LanternHouse$Lectures" "LanternHouse$Lectures" "fades" "[I", .laysFinal "LanternHouse$Lectures" "LanternHouse$Lectures" "hireStarts" "[I", .laysFinal "LanternHouse$Lectures" "LanternHouse$Lectures" "hireEnds" "[I", .laysFinal "LanternHouse$Lectures" "LanternHouse$Lectures" "code" "[I", .lays "LanternHouse$Lectures" "LanternHouse$Lectures" "codeSize" "I", .lays "LanternHouse$Lectures" "LanternHouse$Lectures" "size" "I"] : List Cond), w ∈ lw_tbl
  exact List.forall_mem_cons.mpr ⟨tw_25, List.forall_mem_cons.mpr ⟨tw_24, List.forall_mem_cons.mpr ⟨tw_23, List.forall_mem_cons.mpr ⟨tw_22, List.forall_mem_cons.mpr ⟨tw_21, List.forall_mem_cons.mpr ⟨tw_20, List.forall_mem_cons.mpr ⟨tw_19, List.forall_mem_cons.mpr ⟨tw_18, List.forall_mem_cons.mpr ⟨tw_17, List.forall_mem_cons.mpr ⟨tw_16, List.forall_mem_cons.mpr ⟨tw_15, List.forall_mem_cons.mpr ⟨tw_14, List.forall_mem_cons.mpr ⟨tw_13, fun _ h => absurd h List.not_mem_nil⟩⟩⟩⟩⟩⟩⟩⟩⟩⟩⟩⟩⟩
set_option maxRecDepth 20000 in
theorem tw_26 : (.lays "LanternHouse$Plan" "LanternHouse$Plan" "instead" "I" : Cond) ∈ lw_tbl := lf_1 _ (List.mem_of_getElem? (i := 189) (by decide +kernel))
set_option maxRecDepth 20000 in
theorem tw_27 : (.lays "LanternHouse$Plan" "LanternHouse$Plan" "missed" "I" : Cond) ∈ lw_tbl := lf_1 _ (List.mem_of_getElem? (i := 187) (by decide +kernel))
set_option maxRecDepth 20000 in
theorem tw_28 : (.lays "LanternHouse$Plan" "LanternHouse$Plan" "changes" "I" : Cond) ∈ lw_tbl := lf_1 _ (List.mem_of_getElem? (i := 185) (by decide +kernel))
set_option maxRecDepth 20000 in
theorem tw_29 : (.lays "LanternHouse$Plan" "LanternHouse$Plan" "worth" "I" : Cond) ∈ lw_tbl := lf_1 _ (List.mem_of_getElem? (i := 183) (by decide +kernel))
set_option maxRecDepth 20000 in
theorem tw_30 : (.lays "LanternHouse$Plan" "LanternHouse$Plan" "set" "I" : Cond) ∈ lw_tbl := lf_1 _ (List.mem_of_getElem? (i := 181) (by decide +kernel))
set_option maxRecDepth 20000 in
theorem tw_31 : (.laysFinal "LanternHouse$Plan" "LanternHouse$Plan" "standIns" "[Z" : Cond) ∈ lw_tbl := lf_1 _ (List.mem_of_getElem? (i := 179) (by decide +kernel))
set_option maxRecDepth 20000 in
theorem tw_32 : (.laysFinal "LanternHouse$Plan" "LanternHouse$Plan" "wayEnds" "[I" : Cond) ∈ lw_tbl := lf_1 _ (List.mem_of_getElem? (i := 177) (by decide +kernel))
set_option maxRecDepth 20000 in
theorem tw_33 : (.laysFinal "LanternHouse$Plan" "LanternHouse$Plan" "plates" "[I" : Cond) ∈ lw_tbl := lf_1 _ (List.mem_of_getElem? (i := 175) (by decide +kernel))
set_option maxRecDepth 20000 in
theorem in_wsX30 : ∀ w ∈ wsX30, w ∈ lw_tbl := by
  show ∀ w ∈ ([.laysFinal "LanternHouse$Plan" "LanternHouse$Plan" "plates" "[I", .laysFinal "LanternHouse$Plan" "LanternHouse$Plan" "wayEnds" "[I", .laysFinal "LanternHouse$Plan" "LanternHouse$Plan" "standIns" "[Z", .lays "LanternHouse$Plan" "LanternHouse$Plan" "set" "I", .lays "LanternHouse$Plan" "LanternHouse$Plan" "worth" "I", .lays "LanternHouse$Plan" "LanternHouse$Plan" "changes" "I", .lays "LanternHouse$Plan" "LanternHouse$Plan" "missed" "I", .lays "LanternHouse$Plan" "LanternHouse$Plan" "instead" "I"] : List Cond), w ∈ lw_tbl
  exact List.forall_mem_cons.mpr ⟨tw_33, List.forall_mem_cons.mpr ⟨tw_32, List.forall_mem_cons.mpr ⟨tw_31, List.forall_mem_cons.mpr ⟨tw_30, List.forall_mem_cons.mpr ⟨tw_29, List.forall_mem_cons.mpr ⟨tw_28, List.forall_mem_cons.mpr ⟨tw_27, List.forall_mem_cons.mpr ⟨tw_26, fun _ h => absurd h List.not_mem_nil⟩⟩⟩⟩⟩⟩⟩⟩
set_option maxRecDepth 20000 in
theorem tw_34 : (.lays "LanternHouse$Rails" "LanternHouse$Rails" "trains" "I" : Cond) ∈ lw_tbl := lf_0 _ (List.mem_of_getElem? (i := 138) (by decide +kernel))
set_option maxRecDepth 20000 in
theorem tw_35 : (.lays "LanternHouse$Rails" "LanternHouse$Rails" "halls" "I" : Cond) ∈ lw_tbl := lf_0 _ (List.mem_of_getElem? (i := 136) (by decide +kernel))
set_option maxRecDepth 20000 in
theorem tw_36 : (.laysFinal "LanternHouse$Rails" "LanternHouse$Rails" "reached" "[I" : Cond) ∈ lw_tbl := lf_0 _ (List.mem_of_getElem? (i := 134) (by decide +kernel))
set_option maxRecDepth 20000 in
theorem tw_37 : (.laysFinal "LanternHouse$Rails" "LanternHouse$Rails" "idleDays" "[J" : Cond) ∈ lw_tbl := lf_0 _ (List.mem_of_getElem? (i := 132) (by decide +kernel))
set_option maxRecDepth 20000 in
theorem tw_38 : (.laysFinal "LanternHouse$Rails" "LanternHouse$Rails" "lengths" "[I" : Cond) ∈ lw_tbl := lf_0 _ (List.mem_of_getElem? (i := 130) (by decide +kernel))
set_option maxRecDepth 20000 in
theorem tw_39 : (.laysFinal "LanternHouse$Rails" "LanternHouse$Rails" "hours" "[I" : Cond) ∈ lw_tbl := lf_0 _ (List.mem_of_getElem? (i := 128) (by decide +kernel))
set_option maxRecDepth 20000 in
theorem tw_40 : (.laysFinal "LanternHouse$Rails" "LanternHouse$Rails" "tos" "[I" : Cond) ∈ lw_tbl := lf_0 _ (List.mem_of_getElem? (i := 126) (by decide +kernel))
set_option maxRecDepth 20000 in
theorem tw_41 : (.laysFinal "LanternHouse$Rails" "LanternHouse$Rails" "froms" "[I" : Cond) ∈ lw_tbl := lf_0 _ (List.mem_of_getElem? (i := 124) (by decide +kernel))
set_option maxRecDepth 20000 in
theorem in_wsX40 : ∀ w ∈ wsX40, w ∈ lw_tbl := by
  show ∀ w ∈ ([.laysFinal "LanternHouse$Rails" "LanternHouse$Rails" "froms" "[I", .laysFinal "LanternHouse$Rails" "LanternHouse$Rails" "tos" "[I", .laysFinal "LanternHouse$Rails" "LanternHouse$Rails" "hours" "[I", .laysFinal "LanternHouse$Rails" "LanternHouse$Rails" "lengths" "[I", .laysFinal "LanternHouse$Rails" "LanternHouse$Rails" "idleDays" "[J", .laysFinal "LanternHouse$Rails" "LanternHouse$Rails" "reached" "[I", .lays "LanternHouse$Rails" "LanternHouse$Rails" "halls" "I", .lays "LanternHouse$Rails" "LanternHouse$Rails" "trains" "I"] : List Cond), w ∈ lw_tbl
  exact List.forall_mem_cons.mpr ⟨tw_41, List.forall_mem_cons.mpr ⟨tw_40, List.forall_mem_cons.mpr ⟨tw_39, List.forall_mem_cons.mpr ⟨tw_38, List.forall_mem_cons.mpr ⟨tw_37, List.forall_mem_cons.mpr ⟨tw_36, List.forall_mem_cons.mpr ⟨tw_35, List.forall_mem_cons.mpr ⟨tw_34, fun _ h => absurd h List.not_mem_nil⟩⟩⟩⟩⟩⟩⟩⟩
set_option maxRecDepth 20000 in
theorem tw_42 : (.lays "LanternHouse$Reader" "LanternHouse$Reader" "notedPlace" "I" : Cond) ∈ lw_tbl := lf_0 _ (List.mem_of_getElem? (i := 105) (by decide +kernel))
set_option maxRecDepth 20000 in
theorem tw_43 : (.lays "LanternHouse$Reader" "LanternHouse$Reader" "noted" "I" : Cond) ∈ lw_tbl := lf_0 _ (List.mem_of_getElem? (i := 103) (by decide +kernel))
set_option maxRecDepth 20000 in
theorem tw_44 : (.lays "LanternHouse$Reader" "LanternHouse$Reader" "faultPlace" "I" : Cond) ∈ lw_tbl := lf_0 _ (List.mem_of_getElem? (i := 101) (by decide +kernel))
set_option maxRecDepth 20000 in
theorem tw_45 : (.lays "LanternHouse$Reader" "LanternHouse$Reader" "fault" "I" : Cond) ∈ lw_tbl := lf_0 _ (List.mem_of_getElem? (i := 99) (by decide +kernel))
set_option maxRecDepth 20000 in
theorem tw_46 : (.lays "LanternHouse$Reader" "LanternHouse$Reader" "valuePlace" "I" : Cond) ∈ lw_tbl := lf_0 _ (List.mem_of_getElem? (i := 97) (by decide +kernel))
set_option maxRecDepth 20000 in
theorem tw_47 : (.lays "LanternHouse$Reader" "LanternHouse$Reader" "value" "J" : Cond) ∈ lw_tbl := lf_0 _ (List.mem_of_getElem? (i := 95) (by decide +kernel))
set_option maxRecDepth 20000 in
theorem tw_48 : (.lays "LanternHouse$Reader" "LanternHouse$Reader" "at" "I" : Cond) ∈ lw_tbl := lf_0 _ (List.mem_of_getElem? (i := 93) (by decide +kernel))
set_option maxRecDepth 20000 in
theorem tw_49 : (.lays "LanternHouse$Reader" "LanternHouse$Reader" "text" "LLanternHouse$Lectures;" : Cond) ∈ lw_tbl := lf_0 _ (List.mem_of_getElem? (i := 91) (by decide +kernel))
set_option maxRecDepth 20000 in
theorem tw_50 : (.lays "LanternHouse$Reader" "LanternHouse$Reader" "waitingCount" "I" : Cond) ∈ lw_tbl := lf_0 _ (List.mem_of_getElem? (i := 89) (by decide +kernel))
set_option maxRecDepth 20000 in
theorem tw_51 : (.laysFinal "LanternHouse$Reader" "LanternHouse$Reader" "waiting" "[I" : Cond) ∈ lw_tbl := lf_0 _ (List.mem_of_getElem? (i := 87) (by decide +kernel))
set_option maxRecDepth 20000 in
theorem tw_52 : (.laysFinal "LanternHouse$Reader" "LanternHouse$Reader" "tokens" "LLanternHouse$Tokens;" : Cond) ∈ lw_tbl := lf_0 _ (List.mem_of_getElem? (i := 85) (by decide +kernel))
set_option maxRecDepth 20000 in
theorem in_wsX50 : ∀ w ∈ wsX50, w ∈ lw_tbl := by
  show ∀ w ∈ ([.laysFinal "LanternHouse$Reader" "LanternHouse$Reader" "tokens" "LLanternHouse$Tokens;", .laysFinal "LanternHouse$Reader" "LanternHouse$Reader" "waiting" "[I", .lays "LanternHouse$Reader" "LanternHouse$Reader" "waitingCount" "I", .lays "LanternHouse$Reader" "LanternHouse$Reader" "text" "LLanternHouse$Lectures;", .lays "LanternHouse$Reader" "LanternHouse$Reader" "at" "I", .lays "LanternHouse$Reader" "LanternHouse$Reader" "value" "J", .lays "LanternHouse$Reader" "LanternHouse$Reader" "valuePlace" "I", .lays "LanternHouse$Reader" "LanternHouse$Reader" "fault" "I", .lays "LanternHouse$Reader" "LanternHouse$Reader" "faultPlace" "I", .lays "LanternHouse$Reader" "LanternHouse$Reader" "noted" "I", .lays "LanternHouse$Reader" "LanternHouse$Reader" "notedPlace" "I"] : List Cond), w ∈ lw_tbl
  exact List.forall_mem_cons.mpr ⟨tw_52, List.forall_mem_cons.mpr ⟨tw_51, List.forall_mem_cons.mpr ⟨tw_50, List.forall_mem_cons.mpr ⟨tw_49, List.forall_mem_cons.mpr ⟨tw_48, List.forall_mem_cons.mpr ⟨tw_47, List.forall_mem_cons.mpr ⟨tw_46, List.forall_mem_cons.mpr ⟨tw_45, List.forall_mem_cons.mpr ⟨tw_44, List.forall_mem_cons.mpr ⟨tw_43, List.forall_mem_cons.mpr ⟨tw_42, fun _ h => absurd h List.not_mem_nil⟩⟩⟩⟩⟩⟩⟩⟩⟩⟩⟩
set_option maxRecDepth 20000 in
theorem tw_53 : (.lays "LanternHouse$Showing" "LanternHouse$Showing" "hireNumber" "I" : Cond) ∈ lw_tbl := lf_1 _ (List.mem_of_getElem? (i := 149) (by decide +kernel))
set_option maxRecDepth 20000 in
theorem tw_54 : (.lays "LanternHouse$Showing" "LanternHouse$Showing" "hire" "I" : Cond) ∈ lw_tbl := lf_1 _ (List.mem_of_getElem? (i := 147) (by decide +kernel))
set_option maxRecDepth 20000 in
theorem tw_55 : (.lays "LanternHouse$Showing" "LanternHouse$Showing" "firstDark" "I" : Cond) ∈ lw_tbl := lf_1 _ (List.mem_of_getElem? (i := 145) (by decide +kernel))
set_option maxRecDepth 20000 in
theorem tw_56 : (.lays "LanternHouse$Showing" "LanternHouse$Showing" "worth" "I" : Cond) ∈ lw_tbl := lf_1 _ (List.mem_of_getElem? (i := 143) (by decide +kernel))
set_option maxRecDepth 20000 in
theorem tw_57 : (.lays "LanternHouse$Showing" "LanternHouse$Showing" "gas" "I" : Cond) ∈ lw_tbl := lf_1 _ (List.mem_of_getElem? (i := 141) (by decide +kernel))
set_option maxRecDepth 20000 in
theorem tw_58 : (.lays "LanternHouse$Showing" "LanternHouse$Showing" "minutes" "I" : Cond) ∈ lw_tbl := lf_1 _ (List.mem_of_getElem? (i := 139) (by decide +kernel))
set_option maxRecDepth 20000 in
theorem tw_59 : (.lays "LanternHouse$Showing" "LanternHouse$Showing" "instead" "I" : Cond) ∈ lw_tbl := lf_1 _ (List.mem_of_getElem? (i := 137) (by decide +kernel))
set_option maxRecDepth 20000 in
theorem tw_60 : (.lays "LanternHouse$Showing" "LanternHouse$Showing" "missed" "I" : Cond) ∈ lw_tbl := lf_1 _ (List.mem_of_getElem? (i := 135) (by decide +kernel))
set_option maxRecDepth 20000 in
theorem tw_61 : (.lays "LanternHouse$Showing" "LanternHouse$Showing" "shown" "I" : Cond) ∈ lw_tbl := lf_1 _ (List.mem_of_getElem? (i := 133) (by decide +kernel))
set_option maxRecDepth 20000 in
theorem tw_62 : (.laysFinal "LanternHouse$Showing" "LanternHouse$Showing" "values" "[I" : Cond) ∈ lw_tbl := lf_1 _ (List.mem_of_getElem? (i := 131) (by decide +kernel))
set_option maxRecDepth 20000 in
theorem tw_63 : (.laysFinal "LanternHouse$Showing" "LanternHouse$Showing" "isShown" "[Z" : Cond) ∈ lw_tbl := lf_1 _ (List.mem_of_getElem? (i := 129) (by decide +kernel))
set_option maxRecDepth 20000 in
theorem tw_64 : (.laysFinal "LanternHouse$Showing" "LanternHouse$Showing" "begins" "[I" : Cond) ∈ lw_tbl := lf_1 _ (List.mem_of_getElem? (i := 127) (by decide +kernel))
set_option maxRecDepth 20000 in
theorem in_wsX60 : ∀ w ∈ wsX60, w ∈ lw_tbl := by
  show ∀ w ∈ ([.laysFinal "LanternHouse$Showing" "LanternHouse$Showing" "begins" "[I", .laysFinal "LanternHouse$Showing" "LanternHouse$Showing" "isShown" "[Z", .laysFinal "LanternHouse$Showing" "LanternHouse$Showing" "values" "[I", .lays "LanternHouse$Showing" "LanternHouse$Showing" "shown" "I", .lays "LanternHouse$Showing" "LanternHouse$Showing" "missed" "I", .lays "LanternHouse$Showing" "LanternHouse$Showing" "instead" "I", .lays "LanternHouse$Showing" "LanternHouse$Showing" "minutes" "I", .lays "LanternHouse$Showing" "LanternHouse$Showing" "gas" "I", .lays "LanternHouse$Showing" "LanternHouse$Showing" "worth" "I", .lays "LanternHouse$Showing" "LanternHouse$Showing" "firstDark" "I", .lays "LanternHouse$Showing" "LanternHouse$Showing" "hire" "I", .lays "LanternHouse$Showing" "LanternHouse$Showing" "hireNumber" "I"] : List Cond), w ∈ lw_tbl
  exact List.forall_mem_cons.mpr ⟨tw_64, List.forall_mem_cons.mpr ⟨tw_63, List.forall_mem_cons.mpr ⟨tw_62, List.forall_mem_cons.mpr ⟨tw_61, List.forall_mem_cons.mpr ⟨tw_60, List.forall_mem_cons.mpr ⟨tw_59, List.forall_mem_cons.mpr ⟨tw_58, List.forall_mem_cons.mpr ⟨tw_57, List.forall_mem_cons.mpr ⟨tw_56, List.forall_mem_cons.mpr ⟨tw_55, List.forall_mem_cons.mpr ⟨tw_54, List.forall_mem_cons.mpr ⟨tw_53, fun _ h => absurd h List.not_mem_nil⟩⟩⟩⟩⟩⟩⟩⟩⟩⟩⟩⟩
set_option maxRecDepth 20000 in
theorem tw_65 : (.lays "LanternHouse$Shows" "LanternHouse$Shows" "text" "LLanternHouse$Lectures;" : Cond) ∈ lw_tbl := lf_1 _ (List.mem_of_getElem? (i := 62) (by decide +kernel))
set_option maxRecDepth 20000 in
theorem tw_66 : (.lays "LanternHouse$Shows" "LanternHouse$Shows" "size" "I" : Cond) ∈ lw_tbl := lf_1 _ (List.mem_of_getElem? (i := 60) (by decide +kernel))
set_option maxRecDepth 20000 in
theorem tw_67 : (.laysFinal "LanternHouse$Shows" "LanternHouse$Shows" "order" "[I" : Cond) ∈ lw_tbl := lf_1 _ (List.mem_of_getElem? (i := 58) (by decide +kernel))
set_option maxRecDepth 20000 in
theorem tw_68 : (.laysFinal "LanternHouse$Shows" "LanternHouse$Shows" "worths" "[I" : Cond) ∈ lw_tbl := lf_1 _ (List.mem_of_getElem? (i := 56) (by decide +kernel))
set_option maxRecDepth 20000 in
theorem tw_69 : (.laysFinal "LanternHouse$Shows" "LanternHouse$Shows" "gas" "[I" : Cond) ∈ lw_tbl := lf_1 _ (List.mem_of_getElem? (i := 54) (by decide +kernel))
set_option maxRecDepth 20000 in
theorem tw_70 : (.laysFinal "LanternHouse$Shows" "LanternHouse$Shows" "lectures" "[I" : Cond) ∈ lw_tbl := lf_1 _ (List.mem_of_getElem? (i := 52) (by decide +kernel))
set_option maxRecDepth 20000 in
theorem tw_71 : (.laysFinal "LanternHouse$Shows" "LanternHouse$Shows" "halls" "[I" : Cond) ∈ lw_tbl := lf_1 _ (List.mem_of_getElem? (i := 50) (by decide +kernel))
set_option maxRecDepth 20000 in
theorem tw_72 : (.laysFinal "LanternHouse$Shows" "LanternHouse$Shows" "nights" "[I" : Cond) ∈ lw_tbl := lf_1 _ (List.mem_of_getElem? (i := 48) (by decide +kernel))
set_option maxRecDepth 20000 in
theorem in_wsX70 : ∀ w ∈ wsX70, w ∈ lw_tbl := by
  show ∀ w ∈ ([.laysFinal "LanternHouse$Shows" "LanternHouse$Shows" "nights" "[I", .laysFinal "LanternHouse$Shows" "LanternHouse$Shows" "halls" "[I", .laysFinal "LanternHouse$Shows" "LanternHouse$Shows" "lectures" "[I", .laysFinal "LanternHouse$Shows" "LanternHouse$Shows" "gas" "[I", .laysFinal "LanternHouse$Shows" "LanternHouse$Shows" "worths" "[I", .laysFinal "LanternHouse$Shows" "LanternHouse$Shows" "order" "[I", .lays "LanternHouse$Shows" "LanternHouse$Shows" "size" "I", .lays "LanternHouse$Shows" "LanternHouse$Shows" "text" "LLanternHouse$Lectures;"] : List Cond), w ∈ lw_tbl
  exact List.forall_mem_cons.mpr ⟨tw_72, List.forall_mem_cons.mpr ⟨tw_71, List.forall_mem_cons.mpr ⟨tw_70, List.forall_mem_cons.mpr ⟨tw_69, List.forall_mem_cons.mpr ⟨tw_68, List.forall_mem_cons.mpr ⟨tw_67, List.forall_mem_cons.mpr ⟨tw_66, List.forall_mem_cons.mpr ⟨tw_65, fun _ h => absurd h List.not_mem_nil⟩⟩⟩⟩⟩⟩⟩⟩
set_option maxRecDepth 20000 in
theorem tw_73 : (.lays "LanternHouse$Stock" "LanternHouse$Stock" "size" "I" : Cond) ∈ lw_tbl := lf_0 _ (List.mem_of_getElem? (i := 157) (by decide +kernel))
set_option maxRecDepth 20000 in
theorem tw_74 : (.laysFinal "LanternHouse$Stock" "LanternHouse$Stock" "platesOfKind" "[I" : Cond) ∈ lw_tbl := lf_0 _ (List.mem_of_getElem? (i := 155) (by decide +kernel))
set_option maxRecDepth 20000 in
theorem tw_75 : (.laysFinal "LanternHouse$Stock" "LanternHouse$Stock" "kinds" "[I" : Cond) ∈ lw_tbl := lf_0 _ (List.mem_of_getElem? (i := 153) (by decide +kernel))
set_option maxRecDepth 20000 in
theorem in_wsX80 : ∀ w ∈ wsX80, w ∈ lw_tbl := by
  show ∀ w ∈ ([.laysFinal "LanternHouse$Stock" "LanternHouse$Stock" "kinds" "[I", .laysFinal "LanternHouse$Stock" "LanternHouse$Stock" "platesOfKind" "[I", .lays "LanternHouse$Stock" "LanternHouse$Stock" "size" "I"] : List Cond), w ∈ lw_tbl
  exact List.forall_mem_cons.mpr ⟨tw_75, List.forall_mem_cons.mpr ⟨tw_74, List.forall_mem_cons.mpr ⟨tw_73, fun _ h => absurd h List.not_mem_nil⟩⟩⟩
set_option maxRecDepth 20000 in
theorem tw_76 : (.lays "LanternHouse$Tape" "LanternHouse$Tape" "length" "I" : Cond) ∈ lw_tbl := lf_0 _ (List.mem_of_getElem? (i := 41) (by decide +kernel))
set_option maxRecDepth 20000 in
theorem tw_77 : (.laysFinal "LanternHouse$Tape" "LanternHouse$Tape" "bytes" "[B" : Cond) ∈ lw_tbl := lf_0 _ (List.mem_of_getElem? (i := 39) (by decide +kernel))
set_option maxRecDepth 20000 in
theorem in_wsX90 : ∀ w ∈ wsX90, w ∈ lw_tbl := by
  show ∀ w ∈ ([.laysFinal "LanternHouse$Tape" "LanternHouse$Tape" "bytes" "[B", .lays "LanternHouse$Tape" "LanternHouse$Tape" "length" "I"] : List Cond), w ∈ lw_tbl
  exact List.forall_mem_cons.mpr ⟨tw_77, List.forall_mem_cons.mpr ⟨tw_76, fun _ h => absurd h List.not_mem_nil⟩⟩
set_option maxRecDepth 20000 in
theorem tw_78 : (.laysFinal "LanternHouse$Tokens" "LanternHouse$Tokens" "values" "[J" : Cond) ∈ lw_tbl := lf_0 _ (List.mem_of_getElem? (i := 61) (by decide +kernel))
set_option maxRecDepth 20000 in
theorem tw_79 : (.laysFinal "LanternHouse$Tokens" "LanternHouse$Tokens" "places" "[I" : Cond) ∈ lw_tbl := lf_0 _ (List.mem_of_getElem? (i := 59) (by decide +kernel))
set_option maxRecDepth 20000 in
theorem tw_80 : (.laysFinal "LanternHouse$Tokens" "LanternHouse$Tokens" "sorts" "[I" : Cond) ∈ lw_tbl := lf_0 _ (List.mem_of_getElem? (i := 57) (by decide +kernel))
set_option maxRecDepth 20000 in
theorem in_wsX100 : ∀ w ∈ wsX100, w ∈ lw_tbl := by
  show ∀ w ∈ ([.laysFinal "LanternHouse$Tokens" "LanternHouse$Tokens" "sorts" "[I", .laysFinal "LanternHouse$Tokens" "LanternHouse$Tokens" "places" "[I", .laysFinal "LanternHouse$Tokens" "LanternHouse$Tokens" "values" "[J"] : List Cond), w ∈ lw_tbl
  exact List.forall_mem_cons.mpr ⟨tw_80, List.forall_mem_cons.mpr ⟨tw_79, List.forall_mem_cons.mpr ⟨tw_78, fun _ h => absurd h List.not_mem_nil⟩⟩⟩
set_option maxRecDepth 20000 in
theorem tw_81 : (.lays "LanternHouse" "LanternHouse" "isMade" "Z" : Cond) ∈ lw_tbl := lf_1 _ (List.mem_of_getElem? (i := 229) (by decide +kernel))
set_option maxRecDepth 20000 in
theorem tw_82 : (.lays "LanternHouse" "LanternHouse" "trial" "LLanternHouse$Plan;" : Cond) ∈ lw_tbl := lf_1 _ (List.mem_of_getElem? (i := 227) (by decide +kernel))
set_option maxRecDepth 20000 in
theorem tw_83 : (.lays "LanternHouse" "LanternHouse" "made" "LLanternHouse$Plan;" : Cond) ∈ lw_tbl := lf_1 _ (List.mem_of_getElem? (i := 225) (by decide +kernel))
set_option maxRecDepth 20000 in
theorem tw_84 : (.lays "LanternHouse" "LanternHouse" "draft" "LLanternHouse$Lectures;" : Cond) ∈ lw_tbl := lf_1 _ (List.mem_of_getElem? (i := 223) (by decide +kernel))
set_option maxRecDepth 20000 in
theorem tw_85 : (.laysFinal "LanternHouse" "LanternHouse" "lastShowing" "LLanternHouse$Showing;" : Cond) ∈ lw_tbl := lf_1 _ (List.mem_of_getElem? (i := 221) (by decide +kernel))
set_option maxRecDepth 20000 in
theorem tw_86 : (.laysFinal "LanternHouse" "LanternHouse" "keeper" "LLanternHouse$Keeper;" : Cond) ∈ lw_tbl := lf_1 _ (List.mem_of_getElem? (i := 219) (by decide +kernel))
set_option maxRecDepth 20000 in
theorem tw_87 : (.laysFinal "LanternHouse" "LanternHouse" "shows" "LLanternHouse$Shows;" : Cond) ∈ lw_tbl := lf_1 _ (List.mem_of_getElem? (i := 217) (by decide +kernel))
set_option maxRecDepth 20000 in
theorem tw_88 : (.laysFinal "LanternHouse" "LanternHouse" "facts" "LLanternHouse$Facts;" : Cond) ∈ lw_tbl := lf_1 _ (List.mem_of_getElem? (i := 215) (by decide +kernel))
set_option maxRecDepth 20000 in
theorem tw_89 : (.laysFinal "LanternHouse" "LanternHouse" "stock" "LLanternHouse$Stock;" : Cond) ∈ lw_tbl := lf_1 _ (List.mem_of_getElem? (i := 213) (by decide +kernel))
set_option maxRecDepth 20000 in
theorem tw_90 : (.laysFinal "LanternHouse" "LanternHouse" "rails" "LLanternHouse$Rails;" : Cond) ∈ lw_tbl := lf_1 _ (List.mem_of_getElem? (i := 211) (by decide +kernel))
set_option maxRecDepth 20000 in
theorem tw_91 : (.laysFinal "LanternHouse" "LanternHouse" "reader" "LLanternHouse$Reader;" : Cond) ∈ lw_tbl := lf_1 _ (List.mem_of_getElem? (i := 209) (by decide +kernel))
set_option maxRecDepth 20000 in
theorem tw_92 : (.laysFinal "LanternHouse" "LanternHouse" "tokens" "LLanternHouse$Tokens;" : Cond) ∈ lw_tbl := lf_1 _ (List.mem_of_getElem? (i := 207) (by decide +kernel))
set_option maxRecDepth 20000 in
theorem tw_93 : (.laysFinal "LanternHouse" "LanternHouse" "tape" "LLanternHouse$Tape;" : Cond) ∈ lw_tbl := lf_1 _ (List.mem_of_getElem? (i := 205) (by decide +kernel))
set_option maxRecDepth 20000 in
theorem in_wsX110 : ∀ w ∈ wsX110, w ∈ lw_tbl := by
  show ∀ w ∈ ([.laysFinal "LanternHouse" "LanternHouse" "tape" "LLanternHouse$Tape;", .laysFinal "LanternHouse" "LanternHouse" "tokens" "LLanternHouse$Tokens;", .laysFinal "LanternHouse" "LanternHouse" "reader" "LLanternHouse$Reader;", .laysFinal "LanternHouse" "LanternHouse" "rails" "LLanternHouse$Rails;", .laysFinal "LanternHouse" "LanternHouse" "stock" "LLanternHouse$Stock;", .laysFinal "LanternHouse" "LanternHouse" "facts" "LLanternHouse$Facts;", .laysFinal "LanternHouse" "LanternHouse" "shows" "LLanternHouse$Shows;", .laysFinal "LanternHouse" "LanternHouse" "keeper" "LLanternHouse$Keeper;", .laysFinal "LanternHouse" "LanternHouse" "lastShowing" "LLanternHouse$Showing;", .lays "LanternHouse" "LanternHouse" "draft" "LLanternHouse$Lectures;", .lays "LanternHouse" "LanternHouse" "made" "LLanternHouse$Plan;", .lays "LanternHouse" "LanternHouse" "trial" "LLanternHouse$Plan;", .lays "LanternHouse" "LanternHouse" "isMade" "Z"] : List Cond), w ∈ lw_tbl
  exact List.forall_mem_cons.mpr ⟨tw_93, List.forall_mem_cons.mpr ⟨tw_92, List.forall_mem_cons.mpr ⟨tw_91, List.forall_mem_cons.mpr ⟨tw_90, List.forall_mem_cons.mpr ⟨tw_89, List.forall_mem_cons.mpr ⟨tw_88, List.forall_mem_cons.mpr ⟨tw_87, List.forall_mem_cons.mpr ⟨tw_86, List.forall_mem_cons.mpr ⟨tw_85, List.forall_mem_cons.mpr ⟨tw_84, List.forall_mem_cons.mpr ⟨tw_83, List.forall_mem_cons.mpr ⟨tw_82, List.forall_mem_cons.mpr ⟨tw_81, fun _ h => absurd h List.not_mem_nil⟩⟩⟩⟩⟩⟩⟩⟩⟩⟩⟩⟩⟩
set_option maxRecDepth 20000 in
theorem tw_94 : (.laysFinal "LanternHouseModel" "LanternHouseModel" "pile" "[I" : Cond) ∈ lw_tbl := lf_5 _ (List.mem_of_getElem? (i := 73) (by decide +kernel))
set_option maxRecDepth 20000 in
theorem tw_95 : (.lays "LanternHouseModel" "LanternHouseModel" "firstDark" "I" : Cond) ∈ lw_tbl := lf_5 _ (List.mem_of_getElem? (i := 71) (by decide +kernel))
set_option maxRecDepth 20000 in
theorem tw_96 : (.laysFinal "LanternHouseModel" "LanternHouseModel" "isShown" "[Z" : Cond) ∈ lw_tbl := lf_5 _ (List.mem_of_getElem? (i := 69) (by decide +kernel))
set_option maxRecDepth 20000 in
theorem tw_97 : (.laysFinal "LanternHouseModel" "LanternHouseModel" "begins" "[I" : Cond) ∈ lw_tbl := lf_5 _ (List.mem_of_getElem? (i := 67) (by decide +kernel))
set_option maxRecDepth 20000 in
theorem tw_98 : (.laysFinal "LanternHouseModel" "LanternHouseModel" "variables" "[I" : Cond) ∈ lw_tbl := lf_5 _ (List.mem_of_getElem? (i := 65) (by decide +kernel))
set_option maxRecDepth 20000 in
theorem tw_99 : (.laysFinal "LanternHouseModel" "LanternHouseModel" "madeAt" "[I" : Cond) ∈ lw_tbl := lf_5 _ (List.mem_of_getElem? (i := 63) (by decide +kernel))
set_option maxRecDepth 20000 in
theorem tw_100 : (.laysFinal "LanternHouseModel" "LanternHouseModel" "madeFrom" "[I" : Cond) ∈ lw_tbl := lf_5 _ (List.mem_of_getElem? (i := 61) (by decide +kernel))
set_option maxRecDepth 20000 in
theorem tw_101 : (.laysFinal "LanternHouseModel" "LanternHouseModel" "madeAs" "[I" : Cond) ∈ lw_tbl := lf_5 _ (List.mem_of_getElem? (i := 59) (by decide +kernel))
set_option maxRecDepth 20000 in
theorem tw_102 : (.laysFinal "LanternHouseModel" "LanternHouseModel" "madeGets" "[I" : Cond) ∈ lw_tbl := lf_5 _ (List.mem_of_getElem? (i := 57) (by decide +kernel))
set_option maxRecDepth 20000 in
theorem tw_103 : (.lays "LanternHouseModel" "LanternHouseModel" "madeInstead" "I" : Cond) ∈ lw_tbl := lf_5 _ (List.mem_of_getElem? (i := 55) (by decide +kernel))
set_option maxRecDepth 20000 in
theorem tw_104 : (.lays "LanternHouseModel" "LanternHouseModel" "madeMissed" "I" : Cond) ∈ lw_tbl := lf_5 _ (List.mem_of_getElem? (i := 53) (by decide +kernel))
set_option maxRecDepth 20000 in
theorem tw_105 : (.lays "LanternHouseModel" "LanternHouseModel" "made" "I" : Cond) ∈ lw_tbl := lf_5 _ (List.mem_of_getElem? (i := 51) (by decide +kernel))
set_option maxRecDepth 20000 in
theorem tw_106 : (.lays "LanternHouseModel" "LanternHouseModel" "isMade" "Z" : Cond) ∈ lw_tbl := lf_5 _ (List.mem_of_getElem? (i := 49) (by decide +kernel))
set_option maxRecDepth 20000 in
theorem tw_107 : (.laysFinal "LanternHouseModel" "LanternHouseModel" "inShow" "[Z" : Cond) ∈ lw_tbl := lf_5 _ (List.mem_of_getElem? (i := 47) (by decide +kernel))
set_option maxRecDepth 20000 in
theorem tw_108 : (.laysFinal "LanternHouseModel" "LanternHouseModel" "plateFree" "[I" : Cond) ∈ lw_tbl := lf_5 _ (List.mem_of_getElem? (i := 45) (by decide +kernel))
set_option maxRecDepth 20000 in
theorem tw_109 : (.laysFinal "LanternHouseModel" "LanternHouseModel" "plateAt" "[I" : Cond) ∈ lw_tbl := lf_5 _ (List.mem_of_getElem? (i := 43) (by decide +kernel))
set_option maxRecDepth 20000 in
theorem tw_110 : (.lays "LanternHouseModel" "LanternHouseModel" "instead" "I" : Cond) ∈ lw_tbl := lf_5 _ (List.mem_of_getElem? (i := 41) (by decide +kernel))
set_option maxRecDepth 20000 in
theorem tw_111 : (.lays "LanternHouseModel" "LanternHouseModel" "missed" "I" : Cond) ∈ lw_tbl := lf_5 _ (List.mem_of_getElem? (i := 39) (by decide +kernel))
set_option maxRecDepth 20000 in
theorem tw_112 : (.laysFinal "LanternHouseModel" "LanternHouseModel" "getsAt" "[I" : Cond) ∈ lw_tbl := lf_5 _ (List.mem_of_getElem? (i := 37) (by decide +kernel))
set_option maxRecDepth 20000 in
theorem tw_113 : (.laysFinal "LanternHouseModel" "LanternHouseModel" "getsFrom" "[I" : Cond) ∈ lw_tbl := lf_5 _ (List.mem_of_getElem? (i := 35) (by decide +kernel))
set_option maxRecDepth 20000 in
theorem tw_114 : (.laysFinal "LanternHouseModel" "LanternHouseModel" "getsAs" "[I" : Cond) ∈ lw_tbl := lf_5 _ (List.mem_of_getElem? (i := 33) (by decide +kernel))
set_option maxRecDepth 20000 in
theorem tw_115 : (.laysFinal "LanternHouseModel" "LanternHouseModel" "gets" "[I" : Cond) ∈ lw_tbl := lf_5 _ (List.mem_of_getElem? (i := 31) (by decide +kernel))
set_option maxRecDepth 20000 in
theorem tw_116 : (.laysFinal "LanternHouseModel" "LanternHouseModel" "worth" "[I" : Cond) ∈ lw_tbl := lf_5 _ (List.mem_of_getElem? (i := 29) (by decide +kernel))
set_option maxRecDepth 20000 in
theorem tw_117 : (.laysFinal "LanternHouseModel" "LanternHouseModel" "gas" "[I" : Cond) ∈ lw_tbl := lf_5 _ (List.mem_of_getElem? (i := 27) (by decide +kernel))
set_option maxRecDepth 20000 in
theorem tw_118 : (.laysFinal "LanternHouseModel" "LanternHouseModel" "lecture" "[I" : Cond) ∈ lw_tbl := lf_5 _ (List.mem_of_getElem? (i := 25) (by decide +kernel))
set_option maxRecDepth 20000 in
theorem tw_119 : (.laysFinal "LanternHouseModel" "LanternHouseModel" "where" "[I" : Cond) ∈ lw_tbl := lf_5 _ (List.mem_of_getElem? (i := 23) (by decide +kernel))
set_option maxRecDepth 20000 in
theorem tw_120 : (.laysFinal "LanternHouseModel" "LanternHouseModel" "night" "[I" : Cond) ∈ lw_tbl := lf_5 _ (List.mem_of_getElem? (i := 21) (by decide +kernel))
set_option maxRecDepth 20000 in
theorem tw_121 : (.lays "LanternHouseModel" "LanternHouseModel" "shows" "I" : Cond) ∈ lw_tbl := lf_5 _ (List.mem_of_getElem? (i := 19) (by decide +kernel))
set_option maxRecDepth 20000 in
theorem tw_122 : (.laysFinal "LanternHouseModel" "LanternHouseModel" "soonest" "[I" : Cond) ∈ lw_tbl := lf_5 _ (List.mem_of_getElem? (i := 17) (by decide +kernel))
set_option maxRecDepth 20000 in
theorem tw_123 : (.laysFinal "LanternHouseModel" "LanternHouseModel" "still" "[Z" : Cond) ∈ lw_tbl := lf_5 _ (List.mem_of_getElem? (i := 15) (by decide +kernel))
set_option maxRecDepth 20000 in
theorem tw_124 : (.lays "LanternHouseModel" "LanternHouseModel" "stillFor" "I" : Cond) ∈ lw_tbl := lf_5 _ (List.mem_of_getElem? (i := 13) (by decide +kernel))
set_option maxRecDepth 20000 in
theorem tw_125 : (.laysFinal "LanternHouseModel" "LanternHouseModel" "factAt" "[I" : Cond) ∈ lw_tbl := lf_5 _ (List.mem_of_getElem? (i := 11) (by decide +kernel))
set_option maxRecDepth 20000 in
theorem tw_126 : (.laysFinal "LanternHouseModel" "LanternHouseModel" "factOf" "[I" : Cond) ∈ lw_tbl := lf_5 _ (List.mem_of_getElem? (i := 9) (by decide +kernel))
set_option maxRecDepth 20000 in
theorem tw_127 : (.laysFinal "LanternHouseModel" "LanternHouseModel" "factSort" "[I" : Cond) ∈ lw_tbl := lf_5 _ (List.mem_of_getElem? (i := 7) (by decide +kernel))
set_option maxRecDepth 20000 in
theorem tw_128 : (.lays "LanternHouseModel" "LanternHouseModel" "facts" "I" : Cond) ∈ lw_tbl := lf_5 _ (List.mem_of_getElem? (i := 5) (by decide +kernel))
set_option maxRecDepth 20000 in
theorem tw_129 : (.lays "LanternHouseModel" "LanternHouseModel" "cleaning" "I" : Cond) ∈ lw_tbl := lf_5 _ (List.mem_of_getElem? (i := 3) (by decide +kernel))
set_option maxRecDepth 20000 in
theorem tw_130 : (.laysFinal "LanternHouseModel" "LanternHouseModel" "kind" "[I" : Cond) ∈ lw_tbl := lf_5 _ (List.mem_of_getElem? (i := 1) (by decide +kernel))
set_option maxRecDepth 20000 in
theorem tw_131 : (.lays "LanternHouseModel" "LanternHouseModel" "plates" "I" : Cond) ∈ lw_tbl := lf_4 _ (List.mem_of_getElem? (i := 239) (by decide +kernel))
set_option maxRecDepth 20000 in
theorem tw_132 : (.laysFinal "LanternHouseModel" "LanternHouseModel" "trainTakes" "[I" : Cond) ∈ lw_tbl := lf_4 _ (List.mem_of_getElem? (i := 237) (by decide +kernel))
set_option maxRecDepth 20000 in
theorem tw_133 : (.laysFinal "LanternHouseModel" "LanternHouseModel" "trainHour" "[I" : Cond) ∈ lw_tbl := lf_4 _ (List.mem_of_getElem? (i := 235) (by decide +kernel))
set_option maxRecDepth 20000 in
theorem tw_134 : (.laysFinal "LanternHouseModel" "LanternHouseModel" "trainTo" "[I" : Cond) ∈ lw_tbl := lf_4 _ (List.mem_of_getElem? (i := 233) (by decide +kernel))
set_option maxRecDepth 20000 in
theorem tw_135 : (.laysFinal "LanternHouseModel" "LanternHouseModel" "trainFrom" "[I" : Cond) ∈ lw_tbl := lf_4 _ (List.mem_of_getElem? (i := 231) (by decide +kernel))
set_option maxRecDepth 20000 in
theorem tw_136 : (.lays "LanternHouseModel" "LanternHouseModel" "trains" "I" : Cond) ∈ lw_tbl := lf_4 _ (List.mem_of_getElem? (i := 229) (by decide +kernel))
set_option maxRecDepth 20000 in
theorem tw_137 : (.lays "LanternHouseModel" "LanternHouseModel" "halls" "I" : Cond) ∈ lw_tbl := lf_4 _ (List.mem_of_getElem? (i := 227) (by decide +kernel))
set_option maxRecDepth 20000 in
theorem tw_138 : (.lays "LanternHouseModel" "LanternHouseModel" "waiting" "I" : Cond) ∈ lw_tbl := lf_4 _ (List.mem_of_getElem? (i := 225) (by decide +kernel))
set_option maxRecDepth 20000 in
theorem tw_139 : (.laysFinal "LanternHouseModel" "LanternHouseModel" "waits" "[I" : Cond) ∈ lw_tbl := lf_4 _ (List.mem_of_getElem? (i := 223) (by decide +kernel))
set_option maxRecDepth 20000 in
theorem tw_140 : (.laysFinal "LanternHouseModel" "LanternHouseModel" "codeInt" "[I" : Cond) ∈ lw_tbl := lf_4 _ (List.mem_of_getElem? (i := 221) (by decide +kernel))
set_option maxRecDepth 20000 in
theorem tw_141 : (.laysFinal "LanternHouseModel" "LanternHouseModel" "code" "[I" : Cond) ∈ lw_tbl := lf_4 _ (List.mem_of_getElem? (i := 219) (by decide +kernel))
set_option maxRecDepth 20000 in
theorem tw_142 : (.lays "LanternHouseModel" "LanternHouseModel" "codes" "I" : Cond) ∈ lw_tbl := lf_4 _ (List.mem_of_getElem? (i := 217) (by decide +kernel))
set_option maxRecDepth 20000 in
theorem tw_143 : (.laysFinal "LanternHouseModel" "LanternHouseModel" "relEnd" "[I" : Cond) ∈ lw_tbl := lf_4 _ (List.mem_of_getElem? (i := 215) (by decide +kernel))
set_option maxRecDepth 20000 in
theorem tw_144 : (.laysFinal "LanternHouseModel" "LanternHouseModel" "relRight" "[I" : Cond) ∈ lw_tbl := lf_4 _ (List.mem_of_getElem? (i := 213) (by decide +kernel))
set_option maxRecDepth 20000 in
theorem tw_145 : (.laysFinal "LanternHouseModel" "LanternHouseModel" "relLeft" "[I" : Cond) ∈ lw_tbl := lf_4 _ (List.mem_of_getElem? (i := 211) (by decide +kernel))
set_option maxRecDepth 20000 in
theorem tw_146 : (.laysFinal "LanternHouseModel" "LanternHouseModel" "relSort" "[I" : Cond) ∈ lw_tbl := lf_4 _ (List.mem_of_getElem? (i := 209) (by decide +kernel))
set_option maxRecDepth 20000 in
theorem tw_147 : (.laysFinal "LanternHouseModel" "LanternHouseModel" "relations" "[I" : Cond) ∈ lw_tbl := lf_4 _ (List.mem_of_getElem? (i := 207) (by decide +kernel))
set_option maxRecDepth 20000 in
theorem tw_148 : (.laysFinal "LanternHouseModel" "LanternHouseModel" "hireLast" "[I" : Cond) ∈ lw_tbl := lf_4 _ (List.mem_of_getElem? (i := 205) (by decide +kernel))
set_option maxRecDepth 20000 in
theorem tw_149 : (.laysFinal "LanternHouseModel" "LanternHouseModel" "hireFirst" "[I" : Cond) ∈ lw_tbl := lf_4 _ (List.mem_of_getElem? (i := 203) (by decide +kernel))
set_option maxRecDepth 20000 in
theorem tw_150 : (.laysFinal "LanternHouseModel" "LanternHouseModel" "hireTo" "[I" : Cond) ∈ lw_tbl := lf_4 _ (List.mem_of_getElem? (i := 201) (by decide +kernel))
set_option maxRecDepth 20000 in
theorem tw_151 : (.laysFinal "LanternHouseModel" "LanternHouseModel" "hireFrom" "[I" : Cond) ∈ lw_tbl := lf_4 _ (List.mem_of_getElem? (i := 199) (by decide +kernel))
set_option maxRecDepth 20000 in
theorem tw_152 : (.laysFinal "LanternHouseModel" "LanternHouseModel" "cueFade" "[I" : Cond) ∈ lw_tbl := lf_4 _ (List.mem_of_getElem? (i := 197) (by decide +kernel))
set_option maxRecDepth 20000 in
theorem tw_153 : (.laysFinal "LanternHouseModel" "LanternHouseModel" "cueFor" "[I" : Cond) ∈ lw_tbl := lf_4 _ (List.mem_of_getElem? (i := 195) (by decide +kernel))
set_option maxRecDepth 20000 in
theorem tw_154 : (.laysFinal "LanternHouseModel" "LanternHouseModel" "cueKind" "[I" : Cond) ∈ lw_tbl := lf_4 _ (List.mem_of_getElem? (i := 193) (by decide +kernel))
set_option maxRecDepth 20000 in
theorem tw_155 : (.laysFinal "LanternHouseModel" "LanternHouseModel" "cueKinds" "[I" : Cond) ∈ lw_tbl := lf_4 _ (List.mem_of_getElem? (i := 191) (by decide +kernel))
set_option maxRecDepth 20000 in
theorem tw_156 : (.laysFinal "LanternHouseModel" "LanternHouseModel" "cueMust" "[Z" : Cond) ∈ lw_tbl := lf_4 _ (List.mem_of_getElem? (i := 189) (by decide +kernel))
set_option maxRecDepth 20000 in
theorem tw_157 : (.laysFinal "LanternHouseModel" "LanternHouseModel" "hires" "[I" : Cond) ∈ lw_tbl := lf_4 _ (List.mem_of_getElem? (i := 187) (by decide +kernel))
set_option maxRecDepth 20000 in
theorem tw_158 : (.laysFinal "LanternHouseModel" "LanternHouseModel" "cues" "[I" : Cond) ∈ lw_tbl := lf_4 _ (List.mem_of_getElem? (i := 185) (by decide +kernel))
set_option maxRecDepth 20000 in
theorem tw_159 : (.laysFinal "LanternHouseModel" "LanternHouseModel" "lectName" "[J" : Cond) ∈ lw_tbl := lf_4 _ (List.mem_of_getElem? (i := 183) (by decide +kernel))
set_option maxRecDepth 20000 in
theorem tw_160 : (.laysFinal "LanternHouseModel" "LanternHouseModel" "lectures" "[I" : Cond) ∈ lw_tbl := lf_4 _ (List.mem_of_getElem? (i := 181) (by decide +kernel))
set_option maxRecDepth 20000 in
theorem tw_161 : (.lays "LanternHouseModel" "LanternHouseModel" "side" "I" : Cond) ∈ lw_tbl := lf_4 _ (List.mem_of_getElem? (i := 179) (by decide +kernel))
set_option maxRecDepth 20000 in
theorem tw_162 : (.lays "LanternHouseModel" "LanternHouseModel" "live" "I" : Cond) ∈ lw_tbl := lf_4 _ (List.mem_of_getElem? (i := 177) (by decide +kernel))
set_option maxRecDepth 20000 in
theorem tw_163 : (.lays "LanternHouseModel" "LanternHouseModel" "place" "I" : Cond) ∈ lw_tbl := lf_4 _ (List.mem_of_getElem? (i := 175) (by decide +kernel))
set_option maxRecDepth 20000 in
theorem tw_164 : (.lays "LanternHouseModel" "LanternHouseModel" "worstPlace" "I" : Cond) ∈ lw_tbl := lf_4 _ (List.mem_of_getElem? (i := 173) (by decide +kernel))
set_option maxRecDepth 20000 in
theorem tw_165 : (.lays "LanternHouseModel" "LanternHouseModel" "worst" "I" : Cond) ∈ lw_tbl := lf_4 _ (List.mem_of_getElem? (i := 171) (by decide +kernel))
set_option maxRecDepth 20000 in
theorem tw_166 : (.lays "LanternHouseModel" "LanternHouseModel" "faultPlace" "I" : Cond) ∈ lw_tbl := lf_4 _ (List.mem_of_getElem? (i := 169) (by decide +kernel))
set_option maxRecDepth 20000 in
theorem tw_167 : (.lays "LanternHouseModel" "LanternHouseModel" "fault" "I" : Cond) ∈ lw_tbl := lf_4 _ (List.mem_of_getElem? (i := 167) (by decide +kernel))
set_option maxRecDepth 20000 in
theorem tw_168 : (.lays "LanternHouseModel" "LanternHouseModel" "open" "I" : Cond) ∈ lw_tbl := lf_4 _ (List.mem_of_getElem? (i := 165) (by decide +kernel))
set_option maxRecDepth 20000 in
theorem tw_169 : (.lays "LanternHouseModel" "LanternHouseModel" "t" "I" : Cond) ∈ lw_tbl := lf_4 _ (List.mem_of_getElem? (i := 163) (by decide +kernel))
set_option maxRecDepth 20000 in
theorem tw_170 : (.lays "LanternHouseModel" "LanternHouseModel" "tokens" "I" : Cond) ∈ lw_tbl := lf_4 _ (List.mem_of_getElem? (i := 161) (by decide +kernel))
set_option maxRecDepth 20000 in
theorem tw_171 : (.laysFinal "LanternHouseModel" "LanternHouseModel" "keys" "[J" : Cond) ∈ lw_tbl := lf_4 _ (List.mem_of_getElem? (i := 159) (by decide +kernel))
set_option maxRecDepth 20000 in
theorem tw_172 : (.laysFinal "LanternHouseModel" "LanternHouseModel" "tName" "[J" : Cond) ∈ lw_tbl := lf_4 _ (List.mem_of_getElem? (i := 157) (by decide +kernel))
set_option maxRecDepth 20000 in
theorem tw_173 : (.laysFinal "LanternHouseModel" "LanternHouseModel" "tValue" "[I" : Cond) ∈ lw_tbl := lf_4 _ (List.mem_of_getElem? (i := 155) (by decide +kernel))
set_option maxRecDepth 20000 in
theorem tw_174 : (.laysFinal "LanternHouseModel" "LanternHouseModel" "tPlace" "[I" : Cond) ∈ lw_tbl := lf_4 _ (List.mem_of_getElem? (i := 153) (by decide +kernel))
set_option maxRecDepth 20000 in
theorem tw_175 : (.laysFinal "LanternHouseModel" "LanternHouseModel" "tKind" "[I" : Cond) ∈ lw_tbl := lf_4 _ (List.mem_of_getElem? (i := 151) (by decide +kernel))
set_option maxRecDepth 20000 in
theorem tw_176 : (.lays "LanternHouseModel" "LanternHouseModel" "size" "I" : Cond) ∈ lw_tbl := lf_4 _ (List.mem_of_getElem? (i := 149) (by decide +kernel))
set_option maxRecDepth 20000 in
theorem tw_177 : (.laysFinal "LanternHouseModel" "LanternHouseModel" "text" "[B" : Cond) ∈ lw_tbl := lf_4 _ (List.mem_of_getElem? (i := 147) (by decide +kernel))
set_option maxRecDepth 20000 in
theorem tw_178 : (.lays "LanternHouseModel" "LanternHouseModel" "taped" "I" : Cond) ∈ lw_tbl := lf_4 _ (List.mem_of_getElem? (i := 145) (by decide +kernel))
set_option maxRecDepth 20000 in
theorem tw_179 : (.laysFinal "LanternHouseModel" "LanternHouseModel" "tape" "[B" : Cond) ∈ lw_tbl := lf_4 _ (List.mem_of_getElem? (i := 143) (by decide +kernel))
set_option maxRecDepth 20000 in
theorem tw_180 : (.lays "LanternHouseModel" "LanternHouseModel" "thrown" "I" : Cond) ∈ lw_tbl := lf_4 _ (List.mem_of_getElem? (i := 141) (by decide +kernel))
set_option maxRecDepth 20000 in
theorem in_wsX120 : ∀ w ∈ wsX120, w ∈ lw_tbl := by
  show ∀ w ∈ ([.lays "LanternHouseModel" "LanternHouseModel" "thrown" "I", .laysFinal "LanternHouseModel" "LanternHouseModel" "tape" "[B", .lays "LanternHouseModel" "LanternHouseModel" "taped" "I", .laysFinal "LanternHouseModel" "LanternHouseModel" "text" "[B", .lays "LanternHouseModel" "LanternHouseModel" "size" "I", .laysFinal "LanternHouseModel" "LanternHouseModel" "tKind" "[I", .laysFinal "LanternHouseModel" "LanternHouseModel" "tPlace" "[I", .laysFinal "LanternHouseModel" "LanternHouseModel" "tValue" "[I", .laysFinal "LanternHouseModel" "LanternHouseModel" "tName" "[J", .laysFinal "LanternHouseModel" "LanternHouseModel" "keys" "[J", .lays "LanternHouseModel" "LanternHouseModel" "tokens" "I", .lays "LanternHouseModel" "LanternHouseModel" "t" "I", .lays "LanternHouseModel" "LanternHouseModel" "open" "I", .lays "LanternHouseModel" "LanternHouseModel" "fault" "I", .lays "LanternHouseModel" "LanternHouseModel" "faultPlace" "I", .lays "LanternHouseModel" "LanternHouseModel" "worst" "I", .lays "LanternHouseModel" "LanternHouseModel" "worstPlace" "I", .lays "LanternHouseModel" "LanternHouseModel" "place" "I", .lays "LanternHouseModel" "LanternHouseModel" "live" "I", .lays "LanternHouseModel" "LanternHouseModel" "side" "I", .laysFinal "LanternHouseModel" "LanternHouseModel" "lectures" "[I", .laysFinal "LanternHouseModel" "LanternHouseModel" "lectName" "[J", .laysFinal "LanternHouseModel" "LanternHouseModel" "cues" "[I", .laysFinal "LanternHouseModel" "LanternHouseModel" "hires" "[I", .laysFinal "LanternHouseModel" "LanternHouseModel" "cueMust" "[Z", .laysFinal "LanternHouseModel" "LanternHouseModel" "cueKinds" "[I", .laysFinal "LanternHouseModel" "LanternHouseModel" "cueKind" "[I", .laysFinal "LanternHouseModel" "LanternHouseModel" "cueFor" "[I", .laysFinal "LanternHouseModel" "LanternHouseModel" "cueFade" "[I", .laysFinal "LanternHouseModel" "LanternHouseModel" "hireFrom" "[I", .laysFinal "LanternHouseModel" "LanternHouseModel" "hireTo" "[I", .laysFinal "LanternHouseModel" "LanternHouseModel" "hireFirst" "[I", .laysFinal "LanternHouseModel" "LanternHouseModel" "hireLast" "[I", .laysFinal "LanternHouseModel" "LanternHouseModel" "relations" "[I", .laysFinal "LanternHouseModel" "LanternHouseModel" "relSort" "[I", .laysFinal "LanternHouseModel" "LanternHouseModel" "relLeft" "[I", .laysFinal "LanternHouseModel" "LanternHouseModel" "relRight" "[I", .laysFinal "LanternHouseModel" "LanternHouseModel" "relEnd" "[I", .lays "LanternHouseModel" "LanternHouseModel" "codes" "I", .laysFinal "LanternHouseModel" "LanternHouseModel" "code" "[I", .laysFinal "LanternHouseModel" "LanternHouseModel" "codeInt" "[I", .laysFinal "LanternHouseModel" "LanternHouseModel" "waits" "[I", .lays "LanternHouseModel" "LanternHouseModel" "waiting" "I", .lays "LanternHouseModel" "LanternHouseModel" "halls" "I", .lays "LanternHouseModel" "LanternHouseModel" "trains" "I", .laysFinal "LanternHouseModel" "LanternHouseModel" "trainFrom" "[I", .laysFinal "LanternHouseModel" "LanternHouseModel" "trainTo" "[I", .laysFinal "LanternHouseModel" "LanternHouseModel" "trainHour" "[I", .laysFinal "LanternHouseModel" "LanternHouseModel" "trainTakes" "[I", .lays "LanternHouseModel" "LanternHouseModel" "plates" "I", .laysFinal "LanternHouseModel" "LanternHouseModel" "kind" "[I", .lays "LanternHouseModel" "LanternHouseModel" "cleaning" "I", .lays "LanternHouseModel" "LanternHouseModel" "facts" "I", .laysFinal "LanternHouseModel" "LanternHouseModel" "factSort" "[I", .laysFinal "LanternHouseModel" "LanternHouseModel" "factOf" "[I", .laysFinal "LanternHouseModel" "LanternHouseModel" "factAt" "[I", .lays "LanternHouseModel" "LanternHouseModel" "stillFor" "I", .laysFinal "LanternHouseModel" "LanternHouseModel" "still" "[Z", .laysFinal "LanternHouseModel" "LanternHouseModel" "soonest" "[I", .lays "LanternHouseModel" "LanternHouseModel" "shows" "I", .laysFinal "LanternHouseModel" "LanternHouseModel" "night" "[I", .laysFinal "LanternHouseModel" "LanternHouseModel" "where" "[I", .laysFinal "LanternHouseModel" "LanternHouseModel" "lecture" "[I", .laysFinal "LanternHouseModel" "LanternHouseModel" "gas" "[I", .laysFinal "LanternHouseModel" "LanternHouseModel" "worth" "[I", .laysFinal "LanternHouseModel" "LanternHouseModel" "gets" "[I", .laysFinal "LanternHouseModel" "LanternHouseModel" "getsAs" "[I", .laysFinal "LanternHouseModel" "LanternHouseModel" "getsFrom" "[I", .laysFinal "LanternHouseModel" "LanternHouseModel" "getsAt" "[I", .lays "LanternHouseModel" "LanternHouseModel" "missed" "I", .lays "LanternHouseModel" "LanternHouseModel" "instead" "I", .laysFinal "LanternHouseModel" "LanternHouseModel" "plateAt" "[I", .laysFinal "LanternHouseModel" "LanternHouseModel" "plateFree" "[I", .laysFinal "LanternHouseModel" "LanternHouseModel" "inShow" "[Z", .lays "LanternHouseModel" "LanternHouseModel" "isMade" "Z", .lays "LanternHouseModel" "LanternHouseModel" "made" "I", .lays "LanternHouseModel" "LanternHouseModel" "madeMissed" "I", .lays "LanternHouseModel" "LanternHouseModel" "madeInstead" "I", .laysFinal "LanternHouseModel" "LanternHouseModel" "madeGets" "[I", .laysFinal "LanternHouseModel" "LanternHouseModel" "madeAs" "[I", .laysFinal "LanternHouseModel" "LanternHouseModel" "madeFrom" "[I", .laysFinal "LanternHouseModel" "LanternHouseModel" "madeAt" "[I", .laysFinal "LanternHouseModel" "LanternHouseModel" "variables" "[I", .laysFinal "LanternHouseModel" "LanternHouseModel" "begins" "[I", .laysFinal "LanternHouseModel" "LanternHouseModel" "isShown" "[Z", .lays "LanternHouseModel" "LanternHouseModel" "firstDark" "I", .laysFinal "LanternHouseModel" "LanternHouseModel" "pile" "[I"] : List Cond), w ∈ lw_tbl
  exact List.forall_mem_cons.mpr ⟨tw_180, List.forall_mem_cons.mpr ⟨tw_179, List.forall_mem_cons.mpr ⟨tw_178, List.forall_mem_cons.mpr ⟨tw_177, List.forall_mem_cons.mpr ⟨tw_176, List.forall_mem_cons.mpr ⟨tw_175, List.forall_mem_cons.mpr ⟨tw_174, List.forall_mem_cons.mpr ⟨tw_173, List.forall_mem_cons.mpr ⟨tw_172, List.forall_mem_cons.mpr ⟨tw_171, List.forall_mem_cons.mpr ⟨tw_170, List.forall_mem_cons.mpr ⟨tw_169, List.forall_mem_cons.mpr ⟨tw_168, List.forall_mem_cons.mpr ⟨tw_167, List.forall_mem_cons.mpr ⟨tw_166, List.forall_mem_cons.mpr ⟨tw_165, List.forall_mem_cons.mpr ⟨tw_164, List.forall_mem_cons.mpr ⟨tw_163, List.forall_mem_cons.mpr ⟨tw_162, List.forall_mem_cons.mpr ⟨tw_161, List.forall_mem_cons.mpr ⟨tw_160, List.forall_mem_cons.mpr ⟨tw_159, List.forall_mem_cons.mpr ⟨tw_158, List.forall_mem_cons.mpr ⟨tw_157, List.forall_mem_cons.mpr ⟨tw_156, List.forall_mem_cons.mpr ⟨tw_155, List.forall_mem_cons.mpr ⟨tw_154, List.forall_mem_cons.mpr ⟨tw_153, List.forall_mem_cons.mpr ⟨tw_152, List.forall_mem_cons.mpr ⟨tw_151, List.forall_mem_cons.mpr ⟨tw_150, List.forall_mem_cons.mpr ⟨tw_149, List.forall_mem_cons.mpr ⟨tw_148, List.forall_mem_cons.mpr ⟨tw_147, List.forall_mem_cons.mpr ⟨tw_146, List.forall_mem_cons.mpr ⟨tw_145, List.forall_mem_cons.mpr ⟨tw_144, List.forall_mem_cons.mpr ⟨tw_143, List.forall_mem_cons.mpr ⟨tw_142, List.forall_mem_cons.mpr ⟨tw_141, List.forall_mem_cons.mpr ⟨tw_140, List.forall_mem_cons.mpr ⟨tw_139, List.forall_mem_cons.mpr ⟨tw_138, List.forall_mem_cons.mpr ⟨tw_137, List.forall_mem_cons.mpr ⟨tw_136, List.forall_mem_cons.mpr ⟨tw_135, List.forall_mem_cons.mpr ⟨tw_134, List.forall_mem_cons.mpr ⟨tw_133, List.forall_mem_cons.mpr ⟨tw_132, List.forall_mem_cons.mpr ⟨tw_131, List.forall_mem_cons.mpr ⟨tw_130, List.forall_mem_cons.mpr ⟨tw_129, List.forall_mem_cons.mpr ⟨tw_128, List.forall_mem_cons.mpr ⟨tw_127, List.forall_mem_cons.mpr ⟨tw_126, List.forall_mem_cons.mpr ⟨tw_125, List.forall_mem_cons.mpr ⟨tw_124, List.forall_mem_cons.mpr ⟨tw_123, List.forall_mem_cons.mpr ⟨tw_122, List.forall_mem_cons.mpr ⟨tw_121, List.forall_mem_cons.mpr ⟨tw_120, List.forall_mem_cons.mpr ⟨tw_119, List.forall_mem_cons.mpr ⟨tw_118, List.forall_mem_cons.mpr ⟨tw_117, List.forall_mem_cons.mpr ⟨tw_116, List.forall_mem_cons.mpr ⟨tw_115, List.forall_mem_cons.mpr ⟨tw_114, List.forall_mem_cons.mpr ⟨tw_113, List.forall_mem_cons.mpr ⟨tw_112, List.forall_mem_cons.mpr ⟨tw_111, List.forall_mem_cons.mpr ⟨tw_110, List.forall_mem_cons.mpr ⟨tw_109, List.forall_mem_cons.mpr ⟨tw_108, List.forall_mem_cons.mpr ⟨tw_107, List.forall_mem_cons.mpr ⟨tw_106, List.forall_mem_cons.mpr ⟨tw_105, List.forall_mem_cons.mpr ⟨tw_104, List.forall_mem_cons.mpr ⟨tw_103, List.forall_mem_cons.mpr ⟨tw_102, List.forall_mem_cons.mpr ⟨tw_101, List.forall_mem_cons.mpr ⟨tw_100, List.forall_mem_cons.mpr ⟨tw_99, List.forall_mem_cons.mpr ⟨tw_98, List.forall_mem_cons.mpr ⟨tw_97, List.forall_mem_cons.mpr ⟨tw_96, List.forall_mem_cons.mpr ⟨tw_95, List.forall_mem_cons.mpr ⟨tw_94, fun _ h => absurd h List.not_mem_nil⟩⟩⟩⟩⟩⟩⟩⟩⟩⟩⟩⟩⟩⟩⟩⟩⟩⟩⟩⟩⟩⟩⟩⟩⟩⟩⟩⟩⟩⟩⟩⟩⟩⟩⟩⟩⟩⟩⟩⟩⟩⟩⟩⟩⟩⟩⟩⟩⟩⟩⟩⟩⟩⟩⟩⟩⟩⟩⟩⟩⟩⟩⟩⟩⟩⟩⟩⟩⟩⟩⟩⟩⟩⟩⟩⟩⟩⟩⟩⟩⟩⟩⟩⟩⟩⟩⟩
set_option maxRecDepth 20000 in
theorem tw_181 : (.fieldLink RX9 11 "LanternHouse$Tape" "bytes" "[B" : Cond) ∈ lw_tbl := lf_0 _ (List.mem_of_getElem? (i := 35) (by decide +kernel))
set_option maxRecDepth 20000 in
theorem tw_182 : (.fieldLink RX9 15 "LanternHouse$Tape" "length" "I" : Cond) ∈ lw_tbl := lf_0 _ (List.mem_of_getElem? (i := 36) (by decide +kernel))
set_option maxRecDepth 20000 in
theorem tw_183 : (.code yX9_put cX9_put 3 none : Cond) ∈ lw_tbl := lf_1 _ (List.mem_of_getElem? (i := 239) rfl)
theorem tb_c_put0 : ∀ w ∈ zs_c_put0, w ∈ lw_tbl := List.forall_mem_cons.mpr ⟨tw_183, List.forall_mem_append.mpr ⟨List.forall_mem_cons.mpr ⟨tw_182, List.forall_mem_cons.mpr ⟨tw_181, fun _ h => absurd h List.not_mem_nil⟩⟩, List.forall_mem_append.mpr ⟨in_wsX90, fun _ h => absurd h List.not_mem_nil⟩⟩⟩
theorem tb_c_put4 : ∀ w ∈ zs_c_put4, w ∈ lw_tbl := List.forall_mem_cons.mpr ⟨tw_183, List.forall_mem_append.mpr ⟨List.forall_mem_cons.mpr ⟨tw_182, List.forall_mem_cons.mpr ⟨tw_181, fun _ h => absurd h List.not_mem_nil⟩⟩, List.forall_mem_append.mpr ⟨in_wsX90, fun _ h => absurd h List.not_mem_nil⟩⟩⟩
theorem tb_c_put8 : ∀ w ∈ zs_c_put8, w ∈ lw_tbl := List.forall_mem_cons.mpr ⟨tw_183, List.forall_mem_append.mpr ⟨List.forall_mem_cons.mpr ⟨tw_182, List.forall_mem_cons.mpr ⟨tw_181, fun _ h => absurd h List.not_mem_nil⟩⟩, List.forall_mem_append.mpr ⟨in_wsX90, fun _ h => absurd h List.not_mem_nil⟩⟩⟩
theorem tb_c_put12 : ∀ w ∈ zs_c_put12, w ∈ lw_tbl := List.forall_mem_cons.mpr ⟨tw_183, List.forall_mem_append.mpr ⟨List.forall_mem_cons.mpr ⟨tw_182, List.forall_mem_cons.mpr ⟨tw_181, fun _ h => absurd h List.not_mem_nil⟩⟩, List.forall_mem_append.mpr ⟨in_wsX90, fun _ h => absurd h List.not_mem_nil⟩⟩⟩
theorem tb_c_put16 : ∀ w ∈ zs_c_put16, w ∈ lw_tbl := List.forall_mem_cons.mpr ⟨tw_183, List.forall_mem_append.mpr ⟨List.forall_mem_cons.mpr ⟨tw_182, List.forall_mem_cons.mpr ⟨tw_181, fun _ h => absurd h List.not_mem_nil⟩⟩, List.forall_mem_append.mpr ⟨in_wsX90, fun _ h => absurd h List.not_mem_nil⟩⟩⟩
set_option maxRecDepth 20000 in
theorem tw_184 : (.initialized RX9 : Cond) ∈ lw_tbl := lf_0 _ (List.mem_of_getElem? (i := 2) (by decide +kernel))
set_option maxRecDepth 20000 in
theorem tw_185 : (.selects RX9 yX9_put yX9_put : Cond) ∈ lw_tbl := lf_1 _ (List.mem_of_getElem? (i := 238) (by decide +kernel))
set_option maxRecDepth 20000 in
theorem tw_186 : (.instanceMethod yX9_put : Cond) ∈ lw_tbl := lf_1 _ (List.mem_of_getElem? (i := 237) (by decide +kernel))
set_option maxRecDepth 20000 in
theorem tw_187 : (.methodLink RX11 103 yX9_put : Cond) ∈ lw_tbl := lf_1 _ (List.mem_of_getElem? (i := 236) (by decide +kernel))
set_option maxRecDepth 20000 in
theorem tw_188 : (.fieldLink RX11 99 "LanternHouse$Tape" "length" "I" : Cond) ∈ lw_tbl := lf_0 _ (List.mem_of_getElem? (i := 37) (by decide +kernel))
set_option maxRecDepth 20000 in
theorem tw_189 : (.fieldLink RX11 10 "LanternHouse" "tape" "LLanternHouse$Tape;" : Cond) ∈ lw_tbl := lf_1 _ (List.mem_of_getElem? (i := 192) (by decide +kernel))
set_option maxRecDepth 20000 in
theorem tw_190 : (.code yX11_feed cX11_feed 6 (some .int) : Cond) ∈ lw_tbl := lf_1 _ (List.mem_of_getElem? (i := 235) rfl)
theorem tb_h_feed : ∀ w ∈ zs_h_feed, w ∈ lw_tbl := List.forall_mem_cons.mpr ⟨tw_190, List.forall_mem_append.mpr ⟨List.forall_mem_cons.mpr ⟨tw_189, List.forall_mem_cons.mpr ⟨tw_188, List.forall_mem_cons.mpr ⟨tw_187, List.forall_mem_cons.mpr ⟨tw_186, List.forall_mem_cons.mpr ⟨tw_185, List.forall_mem_cons.mpr ⟨tw_184, fun _ h => absurd h List.not_mem_nil⟩⟩⟩⟩⟩⟩, List.forall_mem_append.mpr ⟨tb_c_put0, List.forall_mem_append.mpr ⟨tb_c_put4, List.forall_mem_append.mpr ⟨tb_c_put8, List.forall_mem_append.mpr ⟨tb_c_put12, List.forall_mem_append.mpr ⟨tb_c_put16, List.forall_mem_append.mpr ⟨in_wsX110, List.forall_mem_append.mpr ⟨in_wsX90, fun _ h => absurd h List.not_mem_nil⟩⟩⟩⟩⟩⟩⟩⟩⟩
set_option maxRecDepth 20000 in
theorem tw_191 : (.initialized RX11 : Cond) ∈ lw_tbl := lf_0 _ (List.mem_of_getElem? (i := 1) (by decide +kernel))
set_option maxRecDepth 20000 in
theorem tw_192 : (.selects RX11 yX11_feed yX11_feed : Cond) ∈ lw_tbl := lf_1 _ (List.mem_of_getElem? (i := 234) (by decide +kernel))
set_option maxRecDepth 20000 in
theorem tw_193 : (.instanceMethod yX11_feed : Cond) ∈ lw_tbl := lf_1 _ (List.mem_of_getElem? (i := 233) (by decide +kernel))
set_option maxRecDepth 20000 in
theorem tw_194 : (.methodLink RL 13 yX11_feed : Cond) ∈ lw_tbl := lf_1 _ (List.mem_of_getElem? (i := 232) (by decide +kernel))
theorem gL_h_feed : GoodIn lw_tbl (wsV RL 13 RX11 yX11_feed zs_h_feed) := goodIn_app (goodIn_sub (List.forall_mem_cons.mpr ⟨tw_194, List.forall_mem_cons.mpr ⟨tw_193, List.forall_mem_cons.mpr ⟨tw_192, List.forall_mem_cons.mpr ⟨tw_191, fun _ h => absurd h List.not_mem_nil⟩⟩⟩⟩) (by decide +kernel)) (goodIn_sub tb_h_feed gd_h_feed)
set_option maxRecDepth 20000 in
theorem tw_195 : (.fieldLink RX12 204 "LanternHouseModel" "taped" "I" : Cond) ∈ lw_tbl := lf_4 _ (List.mem_of_getElem? (i := 56) (by decide +kernel))
set_option maxRecDepth 20000 in
theorem tw_196 : (.fieldLink RX12 13 "LanternHouseModel" "tape" "[B" : Cond) ∈ lw_tbl := lf_4 _ (List.mem_of_getElem? (i := 55) (by decide +kernel))
set_option maxRecDepth 20000 in
theorem tw_197 : (.code yX12_put cX12_put 3 none : Cond) ∈ lw_tbl := lf_5 _ (List.mem_of_getElem? (i := 83) rfl)
theorem tb_m_put0 : ∀ w ∈ zs_m_put0, w ∈ lw_tbl := List.forall_mem_cons.mpr ⟨tw_197, List.forall_mem_append.mpr ⟨List.forall_mem_cons.mpr ⟨tw_196, List.forall_mem_cons.mpr ⟨tw_195, fun _ h => absurd h List.not_mem_nil⟩⟩, List.forall_mem_append.mpr ⟨in_wsX120, fun _ h => absurd h List.not_mem_nil⟩⟩⟩
theorem tb_m_put4 : ∀ w ∈ zs_m_put4, w ∈ lw_tbl := List.forall_mem_cons.mpr ⟨tw_197, List.forall_mem_append.mpr ⟨List.forall_mem_cons.mpr ⟨tw_196, List.forall_mem_cons.mpr ⟨tw_195, fun _ h => absurd h List.not_mem_nil⟩⟩, List.forall_mem_append.mpr ⟨in_wsX120, fun _ h => absurd h List.not_mem_nil⟩⟩⟩
theorem tb_m_put8 : ∀ w ∈ zs_m_put8, w ∈ lw_tbl := List.forall_mem_cons.mpr ⟨tw_197, List.forall_mem_append.mpr ⟨List.forall_mem_cons.mpr ⟨tw_196, List.forall_mem_cons.mpr ⟨tw_195, fun _ h => absurd h List.not_mem_nil⟩⟩, List.forall_mem_append.mpr ⟨in_wsX120, fun _ h => absurd h List.not_mem_nil⟩⟩⟩
theorem tb_m_put12 : ∀ w ∈ zs_m_put12, w ∈ lw_tbl := List.forall_mem_cons.mpr ⟨tw_197, List.forall_mem_append.mpr ⟨List.forall_mem_cons.mpr ⟨tw_196, List.forall_mem_cons.mpr ⟨tw_195, fun _ h => absurd h List.not_mem_nil⟩⟩, List.forall_mem_append.mpr ⟨in_wsX120, fun _ h => absurd h List.not_mem_nil⟩⟩⟩
theorem tb_m_put16 : ∀ w ∈ zs_m_put16, w ∈ lw_tbl := List.forall_mem_cons.mpr ⟨tw_197, List.forall_mem_append.mpr ⟨List.forall_mem_cons.mpr ⟨tw_196, List.forall_mem_cons.mpr ⟨tw_195, fun _ h => absurd h List.not_mem_nil⟩⟩, List.forall_mem_append.mpr ⟨in_wsX120, fun _ h => absurd h List.not_mem_nil⟩⟩⟩
set_option maxRecDepth 20000 in
theorem tw_198 : (.initialized RX12 : Cond) ∈ lw_tbl := lf_0 _ (List.mem_of_getElem? (i := 13) (by decide +kernel))
set_option maxRecDepth 20000 in
theorem tw_199 : (.selects RX12 yX12_put yX12_put : Cond) ∈ lw_tbl := List.mem_append_left _ (List.mem_of_getElem? (i := 29) (by decide +kernel))
set_option maxRecDepth 20000 in
theorem tw_200 : (.instanceMethod yX12_put : Cond) ∈ lw_tbl := lf_5 _ (List.mem_of_getElem? (i := 82) (by decide +kernel))
set_option maxRecDepth 20000 in
theorem tw_201 : (.methodLink RX12 207 yX12_put : Cond) ∈ lw_tbl := lf_5 _ (List.mem_of_getElem? (i := 80) (by decide +kernel))
set_option maxRecDepth 20000 in
theorem tw_202 : (.code yX12_feed cX12_feed 6 (some .int) : Cond) ∈ lw_tbl := lf_5 _ (List.mem_of_getElem? (i := 79) rfl)
theorem tb_m_feed : ∀ w ∈ zs_m_feed, w ∈ lw_tbl := List.forall_mem_cons.mpr ⟨tw_202, List.forall_mem_append.mpr ⟨List.forall_mem_cons.mpr ⟨tw_195, List.forall_mem_cons.mpr ⟨tw_201, List.forall_mem_cons.mpr ⟨tw_200, List.forall_mem_cons.mpr ⟨tw_199, List.forall_mem_cons.mpr ⟨tw_198, fun _ h => absurd h List.not_mem_nil⟩⟩⟩⟩⟩, List.forall_mem_append.mpr ⟨tb_m_put0, List.forall_mem_append.mpr ⟨tb_m_put4, List.forall_mem_append.mpr ⟨tb_m_put8, List.forall_mem_append.mpr ⟨tb_m_put12, List.forall_mem_append.mpr ⟨tb_m_put16, List.forall_mem_append.mpr ⟨in_wsX120, fun _ h => absurd h List.not_mem_nil⟩⟩⟩⟩⟩⟩⟩⟩
set_option maxRecDepth 20000 in
theorem tw_203 : (.selects RX12 yX12_feed yX12_feed : Cond) ∈ lw_tbl := lf_5 _ (List.mem_of_getElem? (i := 78) (by decide +kernel))
set_option maxRecDepth 20000 in
theorem tw_204 : (.instanceMethod yX12_feed : Cond) ∈ lw_tbl := lf_5 _ (List.mem_of_getElem? (i := 77) (by decide +kernel))
set_option maxRecDepth 20000 in
theorem tw_205 : (.methodLink RL 17 yX12_feed : Cond) ∈ lw_tbl := lf_5 _ (List.mem_of_getElem? (i := 76) (by decide +kernel))
theorem gL_m_feed : GoodIn lw_tbl (wsV RL 17 RX12 yX12_feed zs_m_feed) := goodIn_app (goodIn_sub (List.forall_mem_cons.mpr ⟨tw_205, List.forall_mem_cons.mpr ⟨tw_204, List.forall_mem_cons.mpr ⟨tw_203, List.forall_mem_cons.mpr ⟨tw_198, fun _ h => absurd h List.not_mem_nil⟩⟩⟩⟩) (by decide +kernel)) (goodIn_sub tb_m_feed gd_m_feed)
set_option maxRecDepth 20000 in
theorem tw_206 : (.code yX11_back cX11_back 2 (some .int) : Cond) ∈ lw_tbl := lf_2 _ (List.mem_of_getElem? (i := 3) rfl)
theorem tb_h_back : ∀ w ∈ zs_h_back, w ∈ lw_tbl := List.forall_mem_cons.mpr ⟨tw_206, List.forall_mem_append.mpr ⟨List.forall_mem_cons.mpr ⟨tw_189, List.forall_mem_cons.mpr ⟨tw_188, fun _ h => absurd h List.not_mem_nil⟩⟩, List.forall_mem_append.mpr ⟨in_wsX110, List.forall_mem_append.mpr ⟨in_wsX90, fun _ h => absurd h List.not_mem_nil⟩⟩⟩⟩
set_option maxRecDepth 20000 in
theorem tw_207 : (.selects RX11 yX11_back yX11_back : Cond) ∈ lw_tbl := lf_2 _ (List.mem_of_getElem? (i := 2) (by decide +kernel))
set_option maxRecDepth 20000 in
theorem tw_208 : (.instanceMethod yX11_back : Cond) ∈ lw_tbl := lf_2 _ (List.mem_of_getElem? (i := 1) (by decide +kernel))
set_option maxRecDepth 20000 in
theorem tw_209 : (.methodLink RL 18 yX11_back : Cond) ∈ lw_tbl := lf_2 _ (List.mem_of_getElem? (i := 0) (by decide +kernel))
theorem gL_h_back : GoodIn lw_tbl (wsV RL 18 RX11 yX11_back zs_h_back) := goodIn_app (goodIn_sub (List.forall_mem_cons.mpr ⟨tw_209, List.forall_mem_cons.mpr ⟨tw_208, List.forall_mem_cons.mpr ⟨tw_207, List.forall_mem_cons.mpr ⟨tw_191, fun _ h => absurd h List.not_mem_nil⟩⟩⟩⟩) (by decide +kernel)) (goodIn_sub tb_h_back gd_h_back)
set_option maxRecDepth 20000 in
theorem tw_210 : (.code yX12_back cX12_back 2 (some .int) : Cond) ∈ lw_tbl := lf_5 _ (List.mem_of_getElem? (i := 87) rfl)
theorem tb_m_back : ∀ w ∈ zs_m_back, w ∈ lw_tbl := List.forall_mem_cons.mpr ⟨tw_210, List.forall_mem_append.mpr ⟨List.forall_mem_cons.mpr ⟨tw_195, fun _ h => absurd h List.not_mem_nil⟩, List.forall_mem_append.mpr ⟨in_wsX120, fun _ h => absurd h List.not_mem_nil⟩⟩⟩
set_option maxRecDepth 20000 in
theorem tw_211 : (.selects RX12 yX12_back yX12_back : Cond) ∈ lw_tbl := lf_5 _ (List.mem_of_getElem? (i := 86) (by decide +kernel))
set_option maxRecDepth 20000 in
theorem tw_212 : (.instanceMethod yX12_back : Cond) ∈ lw_tbl := lf_5 _ (List.mem_of_getElem? (i := 85) (by decide +kernel))
set_option maxRecDepth 20000 in
theorem tw_213 : (.methodLink RL 22 yX12_back : Cond) ∈ lw_tbl := lf_5 _ (List.mem_of_getElem? (i := 84) (by decide +kernel))
theorem gL_m_back : GoodIn lw_tbl (wsV RL 22 RX12 yX12_back zs_m_back) := goodIn_app (goodIn_sub (List.forall_mem_cons.mpr ⟨tw_213, List.forall_mem_cons.mpr ⟨tw_212, List.forall_mem_cons.mpr ⟨tw_211, List.forall_mem_cons.mpr ⟨tw_198, fun _ h => absurd h List.not_mem_nil⟩⟩⟩⟩) (by decide +kernel)) (goodIn_sub tb_m_back gd_m_back)
set_option maxRecDepth 20000 in
theorem tw_214 : (.fieldLink RX10 37 "LanternHouse$Tape" "length" "I" : Cond) ∈ lw_tbl := lf_0 _ (List.mem_of_getElem? (i := 38) (by decide +kernel))
set_option maxRecDepth 20000 in
theorem tw_215 : (.code yX10_pastBlanks cX10_pastBlanks 3 (some .int) : Cond) ∈ lw_tbl := lf_2 _ (List.mem_of_getElem? (i := 14) rfl)
theorem tb_c_pastBlanks : ∀ w ∈ zs_c_pastBlanks, w ∈ lw_tbl := List.forall_mem_cons.mpr ⟨tw_215, List.forall_mem_append.mpr ⟨List.forall_mem_cons.mpr ⟨tw_214, fun _ h => absurd h List.not_mem_nil⟩, List.forall_mem_append.mpr ⟨in_wsX90, fun _ h => absurd h List.not_mem_nil⟩⟩⟩
set_option maxRecDepth 20000 in
theorem tw_216 : (.code yX9_at cX9_at 2 (some .int) : Cond) ∈ lw_tbl := lf_2 _ (List.mem_of_getElem? (i := 18) rfl)
theorem tb_c_at : ∀ w ∈ zs_c_at, w ∈ lw_tbl := List.forall_mem_cons.mpr ⟨tw_216, List.forall_mem_append.mpr ⟨List.forall_mem_cons.mpr ⟨tw_182, fun _ h => absurd h List.not_mem_nil⟩, List.forall_mem_append.mpr ⟨in_wsX90, fun _ h => absurd h List.not_mem_nil⟩⟩⟩
set_option maxRecDepth 20000 in
theorem tw_217 : (.code yX10_isLetter cX10_isLetter 1 (some .boolean) : Cond) ∈ lw_tbl := lf_2 _ (List.mem_of_getElem? (i := 27) rfl)
theorem tb_c_isLetter : ∀ w ∈ zs_c_isLetter, w ∈ lw_tbl := List.forall_mem_cons.mpr ⟨tw_217, List.forall_mem_append.mpr ⟨fun _ h => absurd h List.not_mem_nil, fun _ h => absurd h List.not_mem_nil⟩⟩
set_option maxRecDepth 20000 in
theorem tw_218 : (.code yX10_isDigit cX10_isDigit 1 (some .boolean) : Cond) ∈ lw_tbl := lf_2 _ (List.mem_of_getElem? (i := 30) rfl)
theorem tb_c_isDigit : ∀ w ∈ zs_c_isDigit, w ∈ lw_tbl := List.forall_mem_cons.mpr ⟨tw_218, List.forall_mem_append.mpr ⟨fun _ h => absurd h List.not_mem_nil, fun _ h => absurd h List.not_mem_nil⟩⟩
set_option maxRecDepth 20000 in
theorem tw_219 : (.static yX10_isDigit : Cond) ∈ lw_tbl := lf_2 _ (List.mem_of_getElem? (i := 29) (by decide +kernel))
set_option maxRecDepth 20000 in
theorem tw_220 : (.methodLink RX10 54 yX10_isDigit : Cond) ∈ lw_tbl := lf_2 _ (List.mem_of_getElem? (i := 28) (by decide +kernel))
set_option maxRecDepth 20000 in
theorem tw_221 : (.initialized RX10 : Cond) ∈ lw_tbl := lf_0 _ (List.mem_of_getElem? (i := 3) (by decide +kernel))
set_option maxRecDepth 20000 in
theorem tw_222 : (.static yX10_isLetter : Cond) ∈ lw_tbl := lf_2 _ (List.mem_of_getElem? (i := 26) (by decide +kernel))
set_option maxRecDepth 20000 in
theorem tw_223 : (.methodLink RX10 51 yX10_isLetter : Cond) ∈ lw_tbl := lf_2 _ (List.mem_of_getElem? (i := 25) (by decide +kernel))
set_option maxRecDepth 20000 in
theorem tw_224 : (.selects RX9 yX9_at yX9_at : Cond) ∈ lw_tbl := lf_2 _ (List.mem_of_getElem? (i := 17) (by decide +kernel))
set_option maxRecDepth 20000 in
theorem tw_225 : (.instanceMethod yX9_at : Cond) ∈ lw_tbl := lf_2 _ (List.mem_of_getElem? (i := 16) (by decide +kernel))
set_option maxRecDepth 20000 in
theorem tw_226 : (.methodLink RX10 43 yX9_at : Cond) ∈ lw_tbl := lf_2 _ (List.mem_of_getElem? (i := 15) (by decide +kernel))
set_option maxRecDepth 20000 in
theorem tw_227 : (.code yX10_endOf cX10_endOf 4 (some .int) : Cond) ∈ lw_tbl := lf_2 _ (List.mem_of_getElem? (i := 24) rfl)
theorem tb_c_endOf : ∀ w ∈ zs_c_endOf, w ∈ lw_tbl := List.forall_mem_cons.mpr ⟨tw_227, List.forall_mem_append.mpr ⟨List.forall_mem_cons.mpr ⟨tw_226, List.forall_mem_cons.mpr ⟨tw_225, List.forall_mem_cons.mpr ⟨tw_224, List.forall_mem_cons.mpr ⟨tw_184, List.forall_mem_cons.mpr ⟨tw_223, List.forall_mem_cons.mpr ⟨tw_222, List.forall_mem_cons.mpr ⟨tw_221, List.forall_mem_cons.mpr ⟨tw_220, List.forall_mem_cons.mpr ⟨tw_219, fun _ h => absurd h List.not_mem_nil⟩⟩⟩⟩⟩⟩⟩⟩⟩, List.forall_mem_append.mpr ⟨tb_c_at, List.forall_mem_append.mpr ⟨tb_c_isLetter, List.forall_mem_append.mpr ⟨tb_c_isDigit, fun _ h => absurd h List.not_mem_nil⟩⟩⟩⟩⟩
set_option maxRecDepth 20000 in
theorem tw_228 : (.code yX10_sortOf cX10_sortOf 4 (some .int) : Cond) ∈ lw_tbl := lf_2 _ (List.mem_of_getElem? (i := 33) rfl)
theorem tb_c_sortOf : ∀ w ∈ zs_c_sortOf, w ∈ lw_tbl := List.forall_mem_cons.mpr ⟨tw_228, List.forall_mem_append.mpr ⟨List.forall_mem_cons.mpr ⟨tw_226, List.forall_mem_cons.mpr ⟨tw_225, List.forall_mem_cons.mpr ⟨tw_224, List.forall_mem_cons.mpr ⟨tw_184, fun _ h => absurd h List.not_mem_nil⟩⟩⟩⟩, List.forall_mem_append.mpr ⟨tb_c_at, fun _ h => absurd h List.not_mem_nil⟩⟩⟩
set_option maxRecDepth 20000 in
theorem tw_229 : (.code yX10_valueOf cX10_valueOf 7 (some .long) : Cond) ∈ lw_tbl := lf_2 _ (List.mem_of_getElem? (i := 111) rfl)
theorem tb_c_valueOf : ∀ w ∈ zs_c_valueOf, w ∈ lw_tbl := List.forall_mem_cons.mpr ⟨tw_229, List.forall_mem_append.mpr ⟨List.forall_mem_cons.mpr ⟨tw_226, List.forall_mem_cons.mpr ⟨tw_225, List.forall_mem_cons.mpr ⟨tw_224, List.forall_mem_cons.mpr ⟨tw_184, List.forall_mem_cons.mpr ⟨tw_220, List.forall_mem_cons.mpr ⟨tw_219, List.forall_mem_cons.mpr ⟨tw_221, List.forall_mem_cons.mpr ⟨tw_223, List.forall_mem_cons.mpr ⟨tw_222, fun _ h => absurd h List.not_mem_nil⟩⟩⟩⟩⟩⟩⟩⟩⟩, List.forall_mem_append.mpr ⟨tb_c_at, List.forall_mem_append.mpr ⟨tb_c_isDigit, List.forall_mem_append.mpr ⟨tb_c_isLetter, fun _ h => absurd h List.not_mem_nil⟩⟩⟩⟩⟩
set_option maxRecDepth 20000 in
theorem tw_230 : (.static yX10_valueOf : Cond) ∈ lw_tbl := lf_2 _ (List.mem_of_getElem? (i := 110) (by decide +kernel))
set_option maxRecDepth 20000 in
theorem tw_231 : (.methodLink RX10 33 yX10_valueOf : Cond) ∈ lw_tbl := lf_2 _ (List.mem_of_getElem? (i := 109) (by decide +kernel))
set_option maxRecDepth 20000 in
theorem tw_232 : (.static yX10_sortOf : Cond) ∈ lw_tbl := lf_2 _ (List.mem_of_getElem? (i := 32) (by decide +kernel))
set_option maxRecDepth 20000 in
theorem tw_233 : (.methodLink RX10 29 yX10_sortOf : Cond) ∈ lw_tbl := lf_2 _ (List.mem_of_getElem? (i := 31) (by decide +kernel))
set_option maxRecDepth 20000 in
theorem tw_234 : (.static yX10_endOf : Cond) ∈ lw_tbl := lf_2 _ (List.mem_of_getElem? (i := 23) (by decide +kernel))
set_option maxRecDepth 20000 in
theorem tw_235 : (.methodLink RX10 26 yX10_endOf : Cond) ∈ lw_tbl := lf_2 _ (List.mem_of_getElem? (i := 22) (by decide +kernel))
set_option maxRecDepth 20000 in
theorem tw_236 : (.static yX10_pastBlanks : Cond) ∈ lw_tbl := lf_2 _ (List.mem_of_getElem? (i := 13) (by decide +kernel))
set_option maxRecDepth 20000 in
theorem tw_237 : (.methodLink RX10 22 yX10_pastBlanks : Cond) ∈ lw_tbl := lf_2 _ (List.mem_of_getElem? (i := 12) (by decide +kernel))
set_option maxRecDepth 20000 in
theorem tw_238 : (.fieldLink RX10 18 "LanternHouse$Tokens" "values" "[J" : Cond) ∈ lw_tbl := lf_0 _ (List.mem_of_getElem? (i := 55) (by decide +kernel))
set_option maxRecDepth 20000 in
theorem tw_239 : (.fieldLink RX10 11 "LanternHouse$Tokens" "sorts" "[I" : Cond) ∈ lw_tbl := lf_0 _ (List.mem_of_getElem? (i := 51) (by decide +kernel))
set_option maxRecDepth 20000 in
theorem tw_240 : (.fieldLink RX10 15 "LanternHouse$Tokens" "places" "[I" : Cond) ∈ lw_tbl := lf_0 _ (List.mem_of_getElem? (i := 53) (by decide +kernel))
set_option maxRecDepth 20000 in
theorem tw_241 : (.code yX10_scan cX10_scan 5 none : Cond) ∈ lw_tbl := lf_2 _ (List.mem_of_getElem? (i := 11) rfl)
theorem tb_c_scan : ∀ w ∈ zs_c_scan, w ∈ lw_tbl := List.forall_mem_cons.mpr ⟨tw_241, List.forall_mem_append.mpr ⟨List.forall_mem_cons.mpr ⟨tw_240, List.forall_mem_cons.mpr ⟨tw_239, List.forall_mem_cons.mpr ⟨tw_238, List.forall_mem_cons.mpr ⟨tw_237, List.forall_mem_cons.mpr ⟨tw_236, List.forall_mem_cons.mpr ⟨tw_221, List.forall_mem_cons.mpr ⟨tw_235, List.forall_mem_cons.mpr ⟨tw_234, List.forall_mem_cons.mpr ⟨tw_233, List.forall_mem_cons.mpr ⟨tw_232, List.forall_mem_cons.mpr ⟨tw_231, List.forall_mem_cons.mpr ⟨tw_230, fun _ h => absurd h List.not_mem_nil⟩⟩⟩⟩⟩⟩⟩⟩⟩⟩⟩⟩, List.forall_mem_append.mpr ⟨tb_c_pastBlanks, List.forall_mem_append.mpr ⟨tb_c_endOf, List.forall_mem_append.mpr ⟨tb_c_sortOf, List.forall_mem_append.mpr ⟨tb_c_valueOf, List.forall_mem_append.mpr ⟨in_wsX100, fun _ h => absurd h List.not_mem_nil⟩⟩⟩⟩⟩⟩⟩
set_option maxRecDepth 20000 in
theorem tw_242 : (.fieldLink RX2 47 "LanternHouse$Lectures" "codeSize" "I" : Cond) ∈ lw_tbl := lf_0 _ (List.mem_of_getElem? (i := 224) (by decide +kernel))
set_option maxRecDepth 20000 in
theorem tw_243 : (.fieldLink RX2 51 "LanternHouse$Lectures" "size" "I" : Cond) ∈ lw_tbl := lf_0 _ (List.mem_of_getElem? (i := 226) (by decide +kernel))
set_option maxRecDepth 20000 in
theorem tw_244 : (.code yX2_clear cX2_clear 1 none : Cond) ∈ lw_tbl := lf_2 _ (List.mem_of_getElem? (i := 125) rfl)
theorem tb_c_clear : ∀ w ∈ zs_c_clear, w ∈ lw_tbl := List.forall_mem_cons.mpr ⟨tw_244, List.forall_mem_append.mpr ⟨List.forall_mem_cons.mpr ⟨tw_243, List.forall_mem_cons.mpr ⟨tw_242, fun _ h => absurd h List.not_mem_nil⟩⟩, List.forall_mem_append.mpr ⟨in_wsX20, fun _ h => absurd h List.not_mem_nil⟩⟩⟩
set_option maxRecDepth 20000 in
theorem tw_245 : (.initialized RX2 : Cond) ∈ lw_tbl := lf_0 _ (List.mem_of_getElem? (i := 9) (by decide +kernel))
set_option maxRecDepth 20000 in
theorem tw_246 : (.selects RX2 yX2_clear yX2_clear : Cond) ∈ lw_tbl := lf_2 _ (List.mem_of_getElem? (i := 124) (by decide +kernel))
set_option maxRecDepth 20000 in
theorem tw_247 : (.instanceMethod yX2_clear : Cond) ∈ lw_tbl := lf_2 _ (List.mem_of_getElem? (i := 123) (by decide +kernel))
set_option maxRecDepth 20000 in
theorem tw_248 : (.methodLink RX5 67 yX2_clear : Cond) ∈ lw_tbl := lf_2 _ (List.mem_of_getElem? (i := 122) (by decide +kernel))
set_option maxRecDepth 20000 in
theorem tw_249 : (.fieldLink RX5 38 "LanternHouse$Reader" "notedPlace" "I" : Cond) ∈ lw_tbl := lf_0 _ (List.mem_of_getElem? (i := 84) (by decide +kernel))
set_option maxRecDepth 20000 in
theorem tw_250 : (.fieldLink RX5 35 "LanternHouse$Reader" "noted" "I" : Cond) ∈ lw_tbl := lf_0 _ (List.mem_of_getElem? (i := 83) (by decide +kernel))
set_option maxRecDepth 20000 in
theorem tw_251 : (.fieldLink RX5 32 "LanternHouse$Reader" "faultPlace" "I" : Cond) ∈ lw_tbl := lf_0 _ (List.mem_of_getElem? (i := 81) (by decide +kernel))
set_option maxRecDepth 20000 in
theorem tw_252 : (.fieldLink RX5 29 "LanternHouse$Reader" "fault" "I" : Cond) ∈ lw_tbl := lf_0 _ (List.mem_of_getElem? (i := 79) (by decide +kernel))
set_option maxRecDepth 20000 in
theorem tw_253 : (.fieldLink RX5 19 "LanternHouse$Reader" "at" "I" : Cond) ∈ lw_tbl := lf_0 _ (List.mem_of_getElem? (i := 76) (by decide +kernel))
set_option maxRecDepth 20000 in
theorem tw_254 : (.fieldLink RX5 63 "LanternHouse$Reader" "text" "LLanternHouse$Lectures;" : Cond) ∈ lw_tbl := lf_0 _ (List.mem_of_getElem? (i := 75) (by decide +kernel))
set_option maxRecDepth 20000 in
theorem tw_255 : (.code yX5_begin cX5_begin 2 none : Cond) ∈ lw_tbl := lf_2 _ (List.mem_of_getElem? (i := 121) rfl)
theorem tb_c_rbegin : ∀ w ∈ zs_c_rbegin, w ∈ lw_tbl := List.forall_mem_cons.mpr ⟨tw_255, List.forall_mem_append.mpr ⟨List.forall_mem_cons.mpr ⟨tw_254, List.forall_mem_cons.mpr ⟨tw_253, List.forall_mem_cons.mpr ⟨tw_252, List.forall_mem_cons.mpr ⟨tw_251, List.forall_mem_cons.mpr ⟨tw_250, List.forall_mem_cons.mpr ⟨tw_249, List.forall_mem_cons.mpr ⟨tw_248, List.forall_mem_cons.mpr ⟨tw_247, List.forall_mem_cons.mpr ⟨tw_246, List.forall_mem_cons.mpr ⟨tw_245, fun _ h => absurd h List.not_mem_nil⟩⟩⟩⟩⟩⟩⟩⟩⟩⟩, List.forall_mem_append.mpr ⟨tb_c_clear, List.forall_mem_append.mpr ⟨in_wsX50, fun _ h => absurd h List.not_mem_nil⟩⟩⟩⟩
set_option maxRecDepth 20000 in
theorem tw_256 : (.initialized RX5 : Cond) ∈ lw_tbl := lf_0 _ (List.mem_of_getElem? (i := 4) (by decide +kernel))
set_option maxRecDepth 20000 in
theorem tw_257 : (.selects RX5 yX5_begin yX5_begin : Cond) ∈ lw_tbl := List.mem_append_left _ (List.mem_of_getElem? (i := 0) (by decide +kernel))
set_option maxRecDepth 20000 in
theorem tw_258 : (.instanceMethod yX5_begin : Cond) ∈ lw_tbl := lf_2 _ (List.mem_of_getElem? (i := 120) (by decide +kernel))
set_option maxRecDepth 20000 in
theorem tw_259 : (.methodLink RX5 45 yX5_begin : Cond) ∈ lw_tbl := lf_2 _ (List.mem_of_getElem? (i := 118) (by decide +kernel))
set_option maxRecDepth 20000 in
theorem tw_260 : (.fieldLink RX5 51 "LanternHouse$Tokens" "sorts" "[I" : Cond) ∈ lw_tbl := lf_0 _ (List.mem_of_getElem? (i := 52) (by decide +kernel))
set_option maxRecDepth 20000 in
theorem tw_261 : (.fieldLink RX5 41 "LanternHouse$Reader" "tokens" "LLanternHouse$Tokens;" : Cond) ∈ lw_tbl := lf_0 _ (List.mem_of_getElem? (i := 72) (by decide +kernel))
set_option maxRecDepth 20000 in
theorem tw_262 : (.code yX5_parse cX5_parse 4 none : Cond) ∈ lw_tbl := lf_2 _ (List.mem_of_getElem? (i := 117) rfl)
theorem tb_c_parse : ∀ w ∈ zs_c_parse, w ∈ lw_tbl := List.forall_mem_cons.mpr ⟨tw_262, List.forall_mem_append.mpr ⟨List.forall_mem_cons.mpr ⟨tw_261, List.forall_mem_cons.mpr ⟨tw_260, List.forall_mem_cons.mpr ⟨tw_253, List.forall_mem_cons.mpr ⟨tw_250, List.forall_mem_cons.mpr ⟨tw_252, List.forall_mem_cons.mpr ⟨tw_249, List.forall_mem_cons.mpr ⟨tw_251, List.forall_mem_cons.mpr ⟨tw_259, List.forall_mem_cons.mpr ⟨tw_258, List.forall_mem_cons.mpr ⟨tw_257, List.forall_mem_cons.mpr ⟨tw_256, fun _ h => absurd h List.not_mem_nil⟩⟩⟩⟩⟩⟩⟩⟩⟩⟩⟩, List.forall_mem_append.mpr ⟨tb_c_rbegin, List.forall_mem_append.mpr ⟨in_wsX50, List.forall_mem_append.mpr ⟨in_wsX100, fun _ h => absurd h List.not_mem_nil⟩⟩⟩⟩⟩
set_option maxRecDepth 20000 in
theorem tw_263 : (.fieldLink RX7 30 "LanternHouse$Shows" "size" "I" : Cond) ∈ lw_tbl := lf_1 _ (List.mem_of_getElem? (i := 40) (by decide +kernel))
set_option maxRecDepth 20000 in
theorem tw_264 : (.fieldLink RX7 34 "LanternHouse$Shows" "text" "LLanternHouse$Lectures;" : Cond) ∈ lw_tbl := lf_1 _ (List.mem_of_getElem? (i := 44) (by decide +kernel))
set_option maxRecDepth 20000 in
theorem tw_265 : (.code yX7_startOver cX7_startOver 2 none : Cond) ∈ lw_tbl := lf_2 _ (List.mem_of_getElem? (i := 208) rfl)
theorem tb_c_startOver : ∀ w ∈ zs_c_startOver, w ∈ lw_tbl := List.forall_mem_cons.mpr ⟨tw_265, List.forall_mem_append.mpr ⟨List.forall_mem_cons.mpr ⟨tw_264, List.forall_mem_cons.mpr ⟨tw_263, fun _ h => absurd h List.not_mem_nil⟩⟩, List.forall_mem_append.mpr ⟨in_wsX70, fun _ h => absurd h List.not_mem_nil⟩⟩⟩
set_option maxRecDepth 20000 in
theorem tw_266 : (.initialized RX7 : Cond) ∈ lw_tbl := lf_0 _ (List.mem_of_getElem? (i := 8) (by decide +kernel))
set_option maxRecDepth 20000 in
theorem tw_267 : (.selects RX7 yX7_startOver yX7_startOver : Cond) ∈ lw_tbl := lf_2 _ (List.mem_of_getElem? (i := 207) (by decide +kernel))
set_option maxRecDepth 20000 in
theorem tw_268 : (.instanceMethod yX7_startOver : Cond) ∈ lw_tbl := lf_2 _ (List.mem_of_getElem? (i := 206) (by decide +kernel))
set_option maxRecDepth 20000 in
theorem tw_269 : (.methodLink RX11 120 yX7_startOver : Cond) ∈ lw_tbl := lf_2 _ (List.mem_of_getElem? (i := 205) (by decide +kernel))
set_option maxRecDepth 20000 in
theorem tw_270 : (.selects RX5 yX5_parse yX5_parse : Cond) ∈ lw_tbl := lf_2 _ (List.mem_of_getElem? (i := 116) (by decide +kernel))
set_option maxRecDepth 20000 in
theorem tw_271 : (.instanceMethod yX5_parse : Cond) ∈ lw_tbl := lf_2 _ (List.mem_of_getElem? (i := 115) (by decide +kernel))
set_option maxRecDepth 20000 in
theorem tw_272 : (.methodLink RX11 111 yX5_parse : Cond) ∈ lw_tbl := lf_2 _ (List.mem_of_getElem? (i := 114) (by decide +kernel))
set_option maxRecDepth 20000 in
theorem tw_273 : (.selects RX10 yX10_scan yX10_scan : Cond) ∈ lw_tbl := lf_2 _ (List.mem_of_getElem? (i := 10) (by decide +kernel))
set_option maxRecDepth 20000 in
theorem tw_274 : (.instanceMethod yX10_scan : Cond) ∈ lw_tbl := lf_2 _ (List.mem_of_getElem? (i := 9) (by decide +kernel))
set_option maxRecDepth 20000 in
theorem tw_275 : (.methodLink RX11 107 yX10_scan : Cond) ∈ lw_tbl := lf_2 _ (List.mem_of_getElem? (i := 8) (by decide +kernel))
set_option maxRecDepth 20000 in
theorem tw_276 : (.fieldLink RX11 95 "LanternHouse" "isMade" "Z" : Cond) ∈ lw_tbl := lf_1 _ (List.mem_of_getElem? (i := 204) (by decide +kernel))
set_option maxRecDepth 20000 in
theorem tw_277 : (.fieldLink RX11 117 "LanternHouse$Shows" "text" "LLanternHouse$Lectures;" : Cond) ∈ lw_tbl := lf_1 _ (List.mem_of_getElem? (i := 47) (by decide +kernel))
set_option maxRecDepth 20000 in
theorem tw_278 : (.fieldLink RX11 61 "LanternHouse" "shows" "LLanternHouse$Shows;" : Cond) ∈ lw_tbl := lf_1 _ (List.mem_of_getElem? (i := 198) (by decide +kernel))
set_option maxRecDepth 20000 in
theorem tw_279 : (.fieldLink RX11 114 "LanternHouse$Reader" "fault" "I" : Cond) ∈ lw_tbl := lf_0 _ (List.mem_of_getElem? (i := 80) (by decide +kernel))
set_option maxRecDepth 20000 in
theorem tw_280 : (.fieldLink RX11 81 "LanternHouse" "draft" "LLanternHouse$Lectures;" : Cond) ∈ lw_tbl := lf_1 _ (List.mem_of_getElem? (i := 201) (by decide +kernel))
set_option maxRecDepth 20000 in
theorem tw_281 : (.fieldLink RX11 28 "LanternHouse" "reader" "LLanternHouse$Reader;" : Cond) ∈ lw_tbl := lf_1 _ (List.mem_of_getElem? (i := 194) (by decide +kernel))
set_option maxRecDepth 20000 in
theorem tw_282 : (.fieldLink RX11 19 "LanternHouse" "tokens" "LLanternHouse$Tokens;" : Cond) ∈ lw_tbl := lf_1 _ (List.mem_of_getElem? (i := 193) (by decide +kernel))
set_option maxRecDepth 20000 in
theorem tw_283 : (.code yX11_read cX11_read 2 (some .int) : Cond) ∈ lw_tbl := lf_2 _ (List.mem_of_getElem? (i := 7) rfl)
theorem tb_h_read : ∀ w ∈ zs_h_read, w ∈ lw_tbl := List.forall_mem_cons.mpr ⟨tw_283, List.forall_mem_append.mpr ⟨List.forall_mem_cons.mpr ⟨tw_282, List.forall_mem_cons.mpr ⟨tw_189, List.forall_mem_cons.mpr ⟨tw_188, List.forall_mem_cons.mpr ⟨tw_281, List.forall_mem_cons.mpr ⟨tw_280, List.forall_mem_cons.mpr ⟨tw_279, List.forall_mem_cons.mpr ⟨tw_278, List.forall_mem_cons.mpr ⟨tw_277, List.forall_mem_cons.mpr ⟨tw_276, List.forall_mem_cons.mpr ⟨tw_275, List.forall_mem_cons.mpr ⟨tw_274, List.forall_mem_cons.mpr ⟨tw_273, List.forall_mem_cons.mpr ⟨tw_221, List.forall_mem_cons.mpr ⟨tw_272, List.forall_mem_cons.mpr ⟨tw_271, List.forall_mem_cons.mpr ⟨tw_270, List.forall_mem_cons.mpr ⟨tw_256, List.forall_mem_cons.mpr ⟨tw_269, List.forall_mem_cons.mpr ⟨tw_268, List.forall_mem_cons.mpr ⟨tw_267, List.forall_mem_cons.mpr ⟨tw_266, fun _ h => absurd h List.not_mem_nil⟩⟩⟩⟩⟩⟩⟩⟩⟩⟩⟩⟩⟩⟩⟩⟩⟩⟩⟩⟩⟩, List.forall_mem_append.mpr ⟨tb_c_scan, List.forall_mem_append.mpr ⟨tb_c_parse, List.forall_mem_append.mpr ⟨tb_c_startOver, List.forall_mem_append.mpr ⟨in_wsX110, List.forall_mem_append.mpr ⟨in_wsX90, List.forall_mem_append.mpr ⟨in_wsX50, List.forall_mem_append.mpr ⟨in_wsX70, fun _ h => absurd h List.not_mem_nil⟩⟩⟩⟩⟩⟩⟩⟩⟩
set_option maxRecDepth 20000 in
theorem tw_284 : (.selects RX11 yX11_read yX11_read : Cond) ∈ lw_tbl := lf_2 _ (List.mem_of_getElem? (i := 6) (by decide +kernel))
set_option maxRecDepth 20000 in
theorem tw_285 : (.instanceMethod yX11_read : Cond) ∈ lw_tbl := lf_2 _ (List.mem_of_getElem? (i := 5) (by decide +kernel))
set_option maxRecDepth 20000 in
theorem tw_286 : (.methodLink RL 23 yX11_read : Cond) ∈ lw_tbl := lf_2 _ (List.mem_of_getElem? (i := 4) (by decide +kernel))
theorem gL_h_read : GoodIn lw_tbl (wsV RL 23 RX11 yX11_read zs_h_read) := goodIn_app (goodIn_sub (List.forall_mem_cons.mpr ⟨tw_286, List.forall_mem_cons.mpr ⟨tw_285, List.forall_mem_cons.mpr ⟨tw_284, List.forall_mem_cons.mpr ⟨tw_191, fun _ h => absurd h List.not_mem_nil⟩⟩⟩⟩) (by decide +kernel)) (goodIn_sub tb_h_read gd_h_read)
set_option maxRecDepth 20000 in
theorem tw_287 : (.fieldLink RX12 211 "LanternHouseModel" "size" "I" : Cond) ∈ lw_tbl := lf_4 _ (List.mem_of_getElem? (i := 58) (by decide +kernel))
set_option maxRecDepth 20000 in
theorem tw_288 : (.code yX12_at cX12_at 2 (some .int) : Cond) ∈ lw_tbl := lf_5 _ (List.mem_of_getElem? (i := 99) rfl)
theorem tb_m_at : ∀ w ∈ zs_m_at, w ∈ lw_tbl := List.forall_mem_cons.mpr ⟨tw_288, List.forall_mem_append.mpr ⟨List.forall_mem_cons.mpr ⟨tw_287, fun _ h => absurd h List.not_mem_nil⟩, List.forall_mem_append.mpr ⟨in_wsX120, fun _ h => absurd h List.not_mem_nil⟩⟩⟩
set_option maxRecDepth 20000 in
theorem tw_289 : (.fieldLink RX12 30 "LanternHouseModel" "tName" "[J" : Cond) ∈ lw_tbl := lf_4 _ (List.mem_of_getElem? (i := 62) (by decide +kernel))
set_option maxRecDepth 20000 in
theorem tw_290 : (.fieldLink RX12 27 "LanternHouseModel" "tValue" "[I" : Cond) ∈ lw_tbl := lf_4 _ (List.mem_of_getElem? (i := 61) (by decide +kernel))
set_option maxRecDepth 20000 in
theorem tw_291 : (.fieldLink RX12 24 "LanternHouseModel" "tPlace" "[I" : Cond) ∈ lw_tbl := lf_4 _ (List.mem_of_getElem? (i := 60) (by decide +kernel))
set_option maxRecDepth 20000 in
theorem tw_292 : (.fieldLink RX12 220 "LanternHouseModel" "tokens" "I" : Cond) ∈ lw_tbl := lf_4 _ (List.mem_of_getElem? (i := 64) (by decide +kernel))
set_option maxRecDepth 20000 in
theorem tw_293 : (.fieldLink RX12 20 "LanternHouseModel" "tKind" "[I" : Cond) ∈ lw_tbl := lf_4 _ (List.mem_of_getElem? (i := 59) (by decide +kernel))
set_option maxRecDepth 20000 in
theorem tw_294 : (.code yX12_token cX12_token 6 none : Cond) ∈ lw_tbl := lf_5 _ (List.mem_of_getElem? (i := 103) rfl)
theorem tb_m_token : ∀ w ∈ zs_m_token, w ∈ lw_tbl := List.forall_mem_cons.mpr ⟨tw_294, List.forall_mem_append.mpr ⟨List.forall_mem_cons.mpr ⟨tw_293, List.forall_mem_cons.mpr ⟨tw_292, List.forall_mem_cons.mpr ⟨tw_291, List.forall_mem_cons.mpr ⟨tw_290, List.forall_mem_cons.mpr ⟨tw_289, fun _ h => absurd h List.not_mem_nil⟩⟩⟩⟩⟩, List.forall_mem_append.mpr ⟨in_wsX120, fun _ h => absurd h List.not_mem_nil⟩⟩⟩
set_option maxRecDepth 20000 in
theorem tw_295 : (.selects RX12 yX12_token yX12_token : Cond) ∈ lw_tbl := List.mem_append_left _ (List.mem_of_getElem? (i := 32) (by decide +kernel))
set_option maxRecDepth 20000 in
theorem tw_296 : (.instanceMethod yX12_token : Cond) ∈ lw_tbl := lf_5 _ (List.mem_of_getElem? (i := 102) (by decide +kernel))
set_option maxRecDepth 20000 in
theorem tw_297 : (.methodLink RX12 227 yX12_token : Cond) ∈ lw_tbl := lf_5 _ (List.mem_of_getElem? (i := 100) (by decide +kernel))
set_option maxRecDepth 20000 in
theorem tw_298 : (.selects RX12 yX12_at yX12_at : Cond) ∈ lw_tbl := List.mem_append_left _ (List.mem_of_getElem? (i := 31) (by decide +kernel))
set_option maxRecDepth 20000 in
theorem tw_299 : (.instanceMethod yX12_at : Cond) ∈ lw_tbl := lf_5 _ (List.mem_of_getElem? (i := 98) (by decide +kernel))
set_option maxRecDepth 20000 in
theorem tw_300 : (.methodLink RX12 223 yX12_at : Cond) ∈ lw_tbl := lf_5 _ (List.mem_of_getElem? (i := 96) (by decide +kernel))
set_option maxRecDepth 20000 in
theorem tw_301 : (.code yX12_cut cX12_cut 8 none : Cond) ∈ lw_tbl := lf_5 _ (List.mem_of_getElem? (i := 95) rfl)
theorem tb_m_cut : ∀ w ∈ zs_m_cut, w ∈ lw_tbl := List.forall_mem_cons.mpr ⟨tw_301, List.forall_mem_append.mpr ⟨List.forall_mem_cons.mpr ⟨tw_292, List.forall_mem_cons.mpr ⟨tw_287, List.forall_mem_cons.mpr ⟨tw_300, List.forall_mem_cons.mpr ⟨tw_299, List.forall_mem_cons.mpr ⟨tw_298, List.forall_mem_cons.mpr ⟨tw_198, List.forall_mem_cons.mpr ⟨tw_297, List.forall_mem_cons.mpr ⟨tw_296, List.forall_mem_cons.mpr ⟨tw_295, fun _ h => absurd h List.not_mem_nil⟩⟩⟩⟩⟩⟩⟩⟩⟩, List.forall_mem_append.mpr ⟨tb_m_at, List.forall_mem_append.mpr ⟨tb_m_token, List.forall_mem_append.mpr ⟨in_wsX120, fun _ h => absurd h List.not_mem_nil⟩⟩⟩⟩⟩
set_option maxRecDepth 20000 in
theorem tw_302 : (.fieldLink RX12 245 "LanternHouseModel" "t" "I" : Cond) ∈ lw_tbl := lf_4 _ (List.mem_of_getElem? (i := 65) (by decide +kernel))
set_option maxRecDepth 20000 in
theorem tw_303 : (.fieldLink RX12 242 "LanternHouseModel" "fault" "I" : Cond) ∈ lw_tbl := lf_4 _ (List.mem_of_getElem? (i := 67) (by decide +kernel))
set_option maxRecDepth 20000 in
theorem tw_304 : (.code yX12_is cX12_is 2 (some .boolean) : Cond) ∈ lw_tbl := lf_5 _ (List.mem_of_getElem? (i := 117) rfl)
theorem tb_m_is : ∀ w ∈ zs_m_is, w ∈ lw_tbl := List.forall_mem_cons.mpr ⟨tw_304, List.forall_mem_append.mpr ⟨List.forall_mem_cons.mpr ⟨tw_303, List.forall_mem_cons.mpr ⟨tw_293, List.forall_mem_cons.mpr ⟨tw_302, fun _ h => absurd h List.not_mem_nil⟩⟩⟩, List.forall_mem_append.mpr ⟨in_wsX120, fun _ h => absurd h List.not_mem_nil⟩⟩⟩
set_option maxRecDepth 20000 in
theorem tw_305 : (.selects RX12 yX12_is yX12_is : Cond) ∈ lw_tbl := List.mem_append_left _ (List.mem_of_getElem? (i := 34) (by decide +kernel))
set_option maxRecDepth 20000 in
theorem tw_306 : (.instanceMethod yX12_is : Cond) ∈ lw_tbl := lf_5 _ (List.mem_of_getElem? (i := 116) (by decide +kernel))
set_option maxRecDepth 20000 in
theorem tw_307 : (.methodLink RX12 260 yX12_is : Cond) ∈ lw_tbl := lf_5 _ (List.mem_of_getElem? (i := 114) (by decide +kernel))
set_option maxRecDepth 20000 in
theorem tw_308 : (.selects RX12 yX12_cut yX12_cut : Cond) ∈ lw_tbl := List.mem_append_left _ (List.mem_of_getElem? (i := 30) (by decide +kernel))
set_option maxRecDepth 20000 in
theorem tw_309 : (.instanceMethod yX12_cut : Cond) ∈ lw_tbl := lf_5 _ (List.mem_of_getElem? (i := 94) (by decide +kernel))
set_option maxRecDepth 20000 in
theorem tw_310 : (.methodLink RX12 266 yX12_cut : Cond) ∈ lw_tbl := lf_5 _ (List.mem_of_getElem? (i := 92) (by decide +kernel))
set_option maxRecDepth 20000 in
theorem tw_311 : (.fieldLink RX12 287 "LanternHouseModel" "isMade" "Z" : Cond) ∈ lw_tbl := lf_4 _ (List.mem_of_getElem? (i := 128) (by decide +kernel))
set_option maxRecDepth 20000 in
theorem tw_312 : (.fieldLink RX12 284 "LanternHouseModel" "shows" "I" : Cond) ∈ lw_tbl := lf_4 _ (List.mem_of_getElem? (i := 113) (by decide +kernel))
set_option maxRecDepth 20000 in
theorem tw_313 : (.fieldLink RX12 37 "LanternHouseModel" "place" "I" : Cond) ∈ lw_tbl := lf_4 _ (List.mem_of_getElem? (i := 71) (by decide +kernel))
set_option maxRecDepth 20000 in
theorem tw_314 : (.fieldLink RX12 278 "LanternHouseModel" "codes" "I" : Cond) ∈ lw_tbl := lf_4 _ (List.mem_of_getElem? (i := 92) (by decide +kernel))
set_option maxRecDepth 20000 in
theorem tw_315 : (.fieldLink RX12 80 "LanternHouseModel" "relations" "[I" : Cond) ∈ lw_tbl := lf_4 _ (List.mem_of_getElem? (i := 87) (by decide +kernel))
set_option maxRecDepth 20000 in
theorem tw_316 : (.fieldLink RX12 40 "LanternHouseModel" "lectures" "[I" : Cond) ∈ lw_tbl := lf_4 _ (List.mem_of_getElem? (i := 74) (by decide +kernel))
set_option maxRecDepth 20000 in
theorem tw_317 : (.fieldLink RX12 275 "LanternHouseModel" "side" "I" : Cond) ∈ lw_tbl := lf_4 _ (List.mem_of_getElem? (i := 73) (by decide +kernel))
set_option maxRecDepth 20000 in
theorem tw_318 : (.fieldLink RX12 272 "LanternHouseModel" "live" "I" : Cond) ∈ lw_tbl := lf_4 _ (List.mem_of_getElem? (i := 72) (by decide +kernel))
set_option maxRecDepth 20000 in
theorem tw_319 : (.fieldLink RX12 251 "LanternHouseModel" "worst" "I" : Cond) ∈ lw_tbl := lf_4 _ (List.mem_of_getElem? (i := 69) (by decide +kernel))
set_option maxRecDepth 20000 in
theorem tw_320 : (.fieldLink RX12 269 "LanternHouseModel" "open" "I" : Cond) ∈ lw_tbl := lf_4 _ (List.mem_of_getElem? (i := 66) (by decide +kernel))
set_option maxRecDepth 20000 in
theorem tw_321 : (.code yX12_read cX12_read 2 (some .int) : Cond) ∈ lw_tbl := lf_5 _ (List.mem_of_getElem? (i := 91) rfl)
theorem tb_m_read : ∀ w ∈ zs_m_read, w ∈ lw_tbl := List.forall_mem_cons.mpr ⟨tw_321, List.forall_mem_append.mpr ⟨List.forall_mem_cons.mpr ⟨tw_195, List.forall_mem_cons.mpr ⟨tw_287, List.forall_mem_cons.mpr ⟨tw_302, List.forall_mem_cons.mpr ⟨tw_320, List.forall_mem_cons.mpr ⟨tw_303, List.forall_mem_cons.mpr ⟨tw_319, List.forall_mem_cons.mpr ⟨tw_318, List.forall_mem_cons.mpr ⟨tw_317, List.forall_mem_cons.mpr ⟨tw_316, List.forall_mem_cons.mpr ⟨tw_315, List.forall_mem_cons.mpr ⟨tw_314, List.forall_mem_cons.mpr ⟨tw_313, List.forall_mem_cons.mpr ⟨tw_312, List.forall_mem_cons.mpr ⟨tw_311, List.forall_mem_cons.mpr ⟨tw_310, List.forall_mem_cons.mpr ⟨tw_309, List.forall_mem_cons.mpr ⟨tw_308, List.forall_mem_cons.mpr ⟨tw_198, List.forall_mem_cons.mpr ⟨tw_307, List.forall_mem_cons.mpr ⟨tw_306, List.forall_mem_cons.mpr ⟨tw_305, fun _ h => absurd h List.not_mem_nil⟩⟩⟩⟩⟩⟩⟩⟩⟩⟩⟩⟩⟩⟩⟩⟩⟩⟩⟩⟩⟩, List.forall_mem_append.mpr ⟨tb_m_cut, List.forall_mem_append.mpr ⟨tb_m_is, List.forall_mem_append.mpr ⟨in_wsX120, fun _ h => absurd h List.not_mem_nil⟩⟩⟩⟩⟩
set_option maxRecDepth 20000 in
theorem tw_322 : (.selects RX12 yX12_read yX12_read : Cond) ∈ lw_tbl := lf_5 _ (List.mem_of_getElem? (i := 90) (by decide +kernel))
set_option maxRecDepth 20000 in
theorem tw_323 : (.instanceMethod yX12_read : Cond) ∈ lw_tbl := lf_5 _ (List.mem_of_getElem? (i := 89) (by decide +kernel))
set_option maxRecDepth 20000 in
theorem tw_324 : (.methodLink RL 27 yX12_read : Cond) ∈ lw_tbl := lf_5 _ (List.mem_of_getElem? (i := 88) (by decide +kernel))
theorem gL_m_read : GoodIn lw_tbl (wsV RL 27 RX12 yX12_read zs_m_read) := goodIn_app (goodIn_sub (List.forall_mem_cons.mpr ⟨tw_324, List.forall_mem_cons.mpr ⟨tw_323, List.forall_mem_cons.mpr ⟨tw_322, List.forall_mem_cons.mpr ⟨tw_198, fun _ h => absurd h List.not_mem_nil⟩⟩⟩⟩) (by decide +kernel)) (goodIn_sub tb_m_read gd_m_read)
set_option maxRecDepth 20000 in
theorem tw_325 : (.fieldLink RX11 123 "LanternHouse$Reader" "faultPlace" "I" : Cond) ∈ lw_tbl := lf_0 _ (List.mem_of_getElem? (i := 82) (by decide +kernel))
set_option maxRecDepth 20000 in
theorem tw_326 : (.code yX11_place cX11_place 1 (some .int) : Cond) ∈ lw_tbl := lf_2 _ (List.mem_of_getElem? (i := 212) rfl)
theorem tb_h_place : ∀ w ∈ zs_h_place, w ∈ lw_tbl := List.forall_mem_cons.mpr ⟨tw_326, List.forall_mem_append.mpr ⟨List.forall_mem_cons.mpr ⟨tw_281, List.forall_mem_cons.mpr ⟨tw_325, fun _ h => absurd h List.not_mem_nil⟩⟩, List.forall_mem_append.mpr ⟨in_wsX110, List.forall_mem_append.mpr ⟨in_wsX50, fun _ h => absurd h List.not_mem_nil⟩⟩⟩⟩
set_option maxRecDepth 20000 in
theorem tw_327 : (.selects RX11 yX11_place yX11_place : Cond) ∈ lw_tbl := lf_2 _ (List.mem_of_getElem? (i := 211) (by decide +kernel))
set_option maxRecDepth 20000 in
theorem tw_328 : (.instanceMethod yX11_place : Cond) ∈ lw_tbl := lf_2 _ (List.mem_of_getElem? (i := 210) (by decide +kernel))
set_option maxRecDepth 20000 in
theorem tw_329 : (.methodLink RL 28 yX11_place : Cond) ∈ lw_tbl := lf_2 _ (List.mem_of_getElem? (i := 209) (by decide +kernel))
theorem gL_h_place : GoodIn lw_tbl (wsV RL 28 RX11 yX11_place zs_h_place) := goodIn_app (goodIn_sub (List.forall_mem_cons.mpr ⟨tw_329, List.forall_mem_cons.mpr ⟨tw_328, List.forall_mem_cons.mpr ⟨tw_327, List.forall_mem_cons.mpr ⟨tw_191, fun _ h => absurd h List.not_mem_nil⟩⟩⟩⟩) (by decide +kernel)) (goodIn_sub tb_h_place gd_h_place)
set_option maxRecDepth 20000 in
theorem tw_330 : (.code yX12_place cX12_place 1 (some .int) : Cond) ∈ lw_tbl := lf_5 _ (List.mem_of_getElem? (i := 165) rfl)
theorem tb_m_place : ∀ w ∈ zs_m_place, w ∈ lw_tbl := List.forall_mem_cons.mpr ⟨tw_330, List.forall_mem_append.mpr ⟨List.forall_mem_cons.mpr ⟨tw_313, fun _ h => absurd h List.not_mem_nil⟩, List.forall_mem_append.mpr ⟨in_wsX120, fun _ h => absurd h List.not_mem_nil⟩⟩⟩
set_option maxRecDepth 20000 in
theorem tw_331 : (.selects RX12 yX12_place yX12_place : Cond) ∈ lw_tbl := lf_5 _ (List.mem_of_getElem? (i := 164) (by decide +kernel))
set_option maxRecDepth 20000 in
theorem tw_332 : (.instanceMethod yX12_place : Cond) ∈ lw_tbl := lf_5 _ (List.mem_of_getElem? (i := 163) (by decide +kernel))
set_option maxRecDepth 20000 in
theorem tw_333 : (.methodLink RL 31 yX12_place : Cond) ∈ lw_tbl := lf_5 _ (List.mem_of_getElem? (i := 162) (by decide +kernel))
theorem gL_m_place : GoodIn lw_tbl (wsV RL 31 RX12 yX12_place zs_m_place) := goodIn_app (goodIn_sub (List.forall_mem_cons.mpr ⟨tw_333, List.forall_mem_cons.mpr ⟨tw_332, List.forall_mem_cons.mpr ⟨tw_331, List.forall_mem_cons.mpr ⟨tw_198, fun _ h => absurd h List.not_mem_nil⟩⟩⟩⟩) (by decide +kernel)) (goodIn_sub tb_m_place gd_m_place)
set_option maxRecDepth 20000 in
theorem tw_334 : (.fieldLink RX4 31 "LanternHouse$Rails" "halls" "I" : Cond) ∈ lw_tbl := lf_0 _ (List.mem_of_getElem? (i := 120) (by decide +kernel))
set_option maxRecDepth 20000 in
theorem tw_335 : (.code yX4_addHall cX4_addHall 1 (some .int) : Cond) ∈ lw_tbl := lf_2 _ (List.mem_of_getElem? (i := 220) rfl)
theorem tb_c_addHall : ∀ w ∈ zs_c_addHall, w ∈ lw_tbl := List.forall_mem_cons.mpr ⟨tw_335, List.forall_mem_append.mpr ⟨List.forall_mem_cons.mpr ⟨tw_334, fun _ h => absurd h List.not_mem_nil⟩, List.forall_mem_append.mpr ⟨in_wsX40, fun _ h => absurd h List.not_mem_nil⟩⟩⟩
set_option maxRecDepth 20000 in
theorem tw_336 : (.initialized RX4 : Cond) ∈ lw_tbl := lf_0 _ (List.mem_of_getElem? (i := 5) (by decide +kernel))
set_option maxRecDepth 20000 in
theorem tw_337 : (.selects RX4 yX4_addHall yX4_addHall : Cond) ∈ lw_tbl := lf_2 _ (List.mem_of_getElem? (i := 219) (by decide +kernel))
set_option maxRecDepth 20000 in
theorem tw_338 : (.instanceMethod yX4_addHall : Cond) ∈ lw_tbl := lf_2 _ (List.mem_of_getElem? (i := 218) (by decide +kernel))
set_option maxRecDepth 20000 in
theorem tw_339 : (.methodLink RX11 126 yX4_addHall : Cond) ∈ lw_tbl := lf_2 _ (List.mem_of_getElem? (i := 217) (by decide +kernel))
set_option maxRecDepth 20000 in
theorem tw_340 : (.fieldLink RX11 35 "LanternHouse" "rails" "LLanternHouse$Rails;" : Cond) ∈ lw_tbl := lf_1 _ (List.mem_of_getElem? (i := 195) (by decide +kernel))
set_option maxRecDepth 20000 in
theorem tw_341 : (.code yX11_hall cX11_hall 1 (some .int) : Cond) ∈ lw_tbl := lf_2 _ (List.mem_of_getElem? (i := 216) rfl)
theorem tb_h_hall : ∀ w ∈ zs_h_hall, w ∈ lw_tbl := List.forall_mem_cons.mpr ⟨tw_341, List.forall_mem_append.mpr ⟨List.forall_mem_cons.mpr ⟨tw_340, List.forall_mem_cons.mpr ⟨tw_339, List.forall_mem_cons.mpr ⟨tw_338, List.forall_mem_cons.mpr ⟨tw_337, List.forall_mem_cons.mpr ⟨tw_336, fun _ h => absurd h List.not_mem_nil⟩⟩⟩⟩⟩, List.forall_mem_append.mpr ⟨tb_c_addHall, List.forall_mem_append.mpr ⟨in_wsX110, fun _ h => absurd h List.not_mem_nil⟩⟩⟩⟩
set_option maxRecDepth 20000 in
theorem tw_342 : (.selects RX11 yX11_hall yX11_hall : Cond) ∈ lw_tbl := lf_2 _ (List.mem_of_getElem? (i := 215) (by decide +kernel))
set_option maxRecDepth 20000 in
theorem tw_343 : (.instanceMethod yX11_hall : Cond) ∈ lw_tbl := lf_2 _ (List.mem_of_getElem? (i := 214) (by decide +kernel))
set_option maxRecDepth 20000 in
theorem tw_344 : (.methodLink RL 32 yX11_hall : Cond) ∈ lw_tbl := lf_2 _ (List.mem_of_getElem? (i := 213) (by decide +kernel))
theorem gL_h_hall : GoodIn lw_tbl (wsV RL 32 RX11 yX11_hall zs_h_hall) := goodIn_app (goodIn_sub (List.forall_mem_cons.mpr ⟨tw_344, List.forall_mem_cons.mpr ⟨tw_343, List.forall_mem_cons.mpr ⟨tw_342, List.forall_mem_cons.mpr ⟨tw_191, fun _ h => absurd h List.not_mem_nil⟩⟩⟩⟩) (by decide +kernel)) (goodIn_sub tb_h_hall gd_h_hall)
set_option maxRecDepth 20000 in
theorem tw_345 : (.fieldLink RX12 201 "LanternHouseModel" "halls" "I" : Cond) ∈ lw_tbl := lf_4 _ (List.mem_of_getElem? (i := 97) (by decide +kernel))
set_option maxRecDepth 20000 in
theorem tw_346 : (.code yX12_hall cX12_hall 1 (some .int) : Cond) ∈ lw_tbl := lf_5 _ (List.mem_of_getElem? (i := 169) rfl)
theorem tb_m_hall : ∀ w ∈ zs_m_hall, w ∈ lw_tbl := List.forall_mem_cons.mpr ⟨tw_346, List.forall_mem_append.mpr ⟨List.forall_mem_cons.mpr ⟨tw_345, fun _ h => absurd h List.not_mem_nil⟩, List.forall_mem_append.mpr ⟨in_wsX120, fun _ h => absurd h List.not_mem_nil⟩⟩⟩
set_option maxRecDepth 20000 in
theorem tw_347 : (.selects RX12 yX12_hall yX12_hall : Cond) ∈ lw_tbl := lf_5 _ (List.mem_of_getElem? (i := 168) (by decide +kernel))
set_option maxRecDepth 20000 in
theorem tw_348 : (.instanceMethod yX12_hall : Cond) ∈ lw_tbl := lf_5 _ (List.mem_of_getElem? (i := 167) (by decide +kernel))
set_option maxRecDepth 20000 in
theorem tw_349 : (.methodLink RL 35 yX12_hall : Cond) ∈ lw_tbl := lf_5 _ (List.mem_of_getElem? (i := 166) (by decide +kernel))
theorem gL_m_hall : GoodIn lw_tbl (wsV RL 35 RX12 yX12_hall zs_m_hall) := goodIn_app (goodIn_sub (List.forall_mem_cons.mpr ⟨tw_349, List.forall_mem_cons.mpr ⟨tw_348, List.forall_mem_cons.mpr ⟨tw_347, List.forall_mem_cons.mpr ⟨tw_198, fun _ h => absurd h List.not_mem_nil⟩⟩⟩⟩) (by decide +kernel)) (goodIn_sub tb_m_hall gd_m_hall)
set_option maxRecDepth 20000 in
theorem tw_350 : (.code yX4_isHall cX4_isHall 2 (some .boolean) : Cond) ∈ lw_tbl := lf_2 _ (List.mem_of_getElem? (i := 232) rfl)
theorem tb_c_isHall : ∀ w ∈ zs_c_isHall, w ∈ lw_tbl := List.forall_mem_cons.mpr ⟨tw_350, List.forall_mem_append.mpr ⟨List.forall_mem_cons.mpr ⟨tw_334, fun _ h => absurd h List.not_mem_nil⟩, List.forall_mem_append.mpr ⟨in_wsX40, fun _ h => absurd h List.not_mem_nil⟩⟩⟩
set_option maxRecDepth 20000 in
theorem tw_351 : (.selects RX4 yX4_isHall yX4_isHall : Cond) ∈ lw_tbl := lf_2 _ (List.mem_of_getElem? (i := 231) (by decide +kernel))
set_option maxRecDepth 20000 in
theorem tw_352 : (.instanceMethod yX4_isHall : Cond) ∈ lw_tbl := lf_2 _ (List.mem_of_getElem? (i := 230) (by decide +kernel))
set_option maxRecDepth 20000 in
theorem tw_353 : (.methodLink RX4 38 yX4_isHall : Cond) ∈ lw_tbl := lf_2 _ (List.mem_of_getElem? (i := 229) (by decide +kernel))
set_option maxRecDepth 20000 in
theorem tw_354 : (.fieldLink RX4 35 "LanternHouse$Rails" "trains" "I" : Cond) ∈ lw_tbl := lf_0 _ (List.mem_of_getElem? (i := 122) (by decide +kernel))
set_option maxRecDepth 20000 in
theorem tw_355 : (.code yX4_addTrain cX4_addTrain 5 (some .int) : Cond) ∈ lw_tbl := lf_2 _ (List.mem_of_getElem? (i := 228) rfl)
theorem tb_c_addTrain : ∀ w ∈ zs_c_addTrain, w ∈ lw_tbl := List.forall_mem_cons.mpr ⟨tw_355, List.forall_mem_append.mpr ⟨List.forall_mem_cons.mpr ⟨tw_354, List.forall_mem_cons.mpr ⟨tw_353, List.forall_mem_cons.mpr ⟨tw_352, List.forall_mem_cons.mpr ⟨tw_351, List.forall_mem_cons.mpr ⟨tw_336, fun _ h => absurd h List.not_mem_nil⟩⟩⟩⟩⟩, List.forall_mem_append.mpr ⟨tb_c_isHall, List.forall_mem_append.mpr ⟨in_wsX40, fun _ h => absurd h List.not_mem_nil⟩⟩⟩⟩
set_option maxRecDepth 20000 in
theorem tw_356 : (.selects RX4 yX4_addTrain yX4_addTrain : Cond) ∈ lw_tbl := lf_2 _ (List.mem_of_getElem? (i := 227) (by decide +kernel))
set_option maxRecDepth 20000 in
theorem tw_357 : (.instanceMethod yX4_addTrain : Cond) ∈ lw_tbl := lf_2 _ (List.mem_of_getElem? (i := 226) (by decide +kernel))
set_option maxRecDepth 20000 in
theorem tw_358 : (.methodLink RX11 130 yX4_addTrain : Cond) ∈ lw_tbl := lf_2 _ (List.mem_of_getElem? (i := 225) (by decide +kernel))
set_option maxRecDepth 20000 in
theorem tw_359 : (.code yX11_train cX11_train 5 (some .int) : Cond) ∈ lw_tbl := lf_2 _ (List.mem_of_getElem? (i := 224) rfl)
theorem tb_h_train : ∀ w ∈ zs_h_train, w ∈ lw_tbl := List.forall_mem_cons.mpr ⟨tw_359, List.forall_mem_append.mpr ⟨List.forall_mem_cons.mpr ⟨tw_340, List.forall_mem_cons.mpr ⟨tw_358, List.forall_mem_cons.mpr ⟨tw_357, List.forall_mem_cons.mpr ⟨tw_356, List.forall_mem_cons.mpr ⟨tw_336, fun _ h => absurd h List.not_mem_nil⟩⟩⟩⟩⟩, List.forall_mem_append.mpr ⟨tb_c_addTrain, List.forall_mem_append.mpr ⟨in_wsX110, fun _ h => absurd h List.not_mem_nil⟩⟩⟩⟩
set_option maxRecDepth 20000 in
theorem tw_360 : (.selects RX11 yX11_train yX11_train : Cond) ∈ lw_tbl := lf_2 _ (List.mem_of_getElem? (i := 223) (by decide +kernel))
set_option maxRecDepth 20000 in
theorem tw_361 : (.instanceMethod yX11_train : Cond) ∈ lw_tbl := lf_2 _ (List.mem_of_getElem? (i := 222) (by decide +kernel))
set_option maxRecDepth 20000 in
theorem tw_362 : (.methodLink RL 36 yX11_train : Cond) ∈ lw_tbl := lf_2 _ (List.mem_of_getElem? (i := 221) (by decide +kernel))
theorem gL_h_train : GoodIn lw_tbl (wsV RL 36 RX11 yX11_train zs_h_train) := goodIn_app (goodIn_sub (List.forall_mem_cons.mpr ⟨tw_362, List.forall_mem_cons.mpr ⟨tw_361, List.forall_mem_cons.mpr ⟨tw_360, List.forall_mem_cons.mpr ⟨tw_191, fun _ h => absurd h List.not_mem_nil⟩⟩⟩⟩) (by decide +kernel)) (goodIn_sub tb_h_train gd_h_train)
set_option maxRecDepth 20000 in
theorem tw_363 : (.code yX12_isHall cX12_isHall 2 (some .boolean) : Cond) ∈ lw_tbl := lf_5 _ (List.mem_of_getElem? (i := 177) rfl)
theorem tb_m_isHall : ∀ w ∈ zs_m_isHall, w ∈ lw_tbl := List.forall_mem_cons.mpr ⟨tw_363, List.forall_mem_append.mpr ⟨List.forall_mem_cons.mpr ⟨tw_345, fun _ h => absurd h List.not_mem_nil⟩, List.forall_mem_append.mpr ⟨in_wsX120, fun _ h => absurd h List.not_mem_nil⟩⟩⟩
set_option maxRecDepth 20000 in
theorem tw_364 : (.selects RX12 yX12_isHall yX12_isHall : Cond) ∈ lw_tbl := List.mem_append_left _ (List.mem_of_getElem? (i := 46) (by decide +kernel))
set_option maxRecDepth 20000 in
theorem tw_365 : (.instanceMethod yX12_isHall : Cond) ∈ lw_tbl := lf_5 _ (List.mem_of_getElem? (i := 176) (by decide +kernel))
set_option maxRecDepth 20000 in
theorem tw_366 : (.methodLink RX12 329 yX12_isHall : Cond) ∈ lw_tbl := lf_5 _ (List.mem_of_getElem? (i := 174) (by decide +kernel))
set_option maxRecDepth 20000 in
theorem tw_367 : (.fieldLink RX12 326 "LanternHouseModel" "trains" "I" : Cond) ∈ lw_tbl := lf_4 _ (List.mem_of_getElem? (i := 98) (by decide +kernel))
set_option maxRecDepth 20000 in
theorem tw_368 : (.code yX12_train cX12_train 5 (some .int) : Cond) ∈ lw_tbl := lf_5 _ (List.mem_of_getElem? (i := 173) rfl)
theorem tb_m_train : ∀ w ∈ zs_m_train, w ∈ lw_tbl := List.forall_mem_cons.mpr ⟨tw_368, List.forall_mem_append.mpr ⟨List.forall_mem_cons.mpr ⟨tw_367, List.forall_mem_cons.mpr ⟨tw_366, List.forall_mem_cons.mpr ⟨tw_365, List.forall_mem_cons.mpr ⟨tw_364, List.forall_mem_cons.mpr ⟨tw_198, fun _ h => absurd h List.not_mem_nil⟩⟩⟩⟩⟩, List.forall_mem_append.mpr ⟨tb_m_isHall, List.forall_mem_append.mpr ⟨in_wsX120, fun _ h => absurd h List.not_mem_nil⟩⟩⟩⟩
set_option maxRecDepth 20000 in
theorem tw_369 : (.selects RX12 yX12_train yX12_train : Cond) ∈ lw_tbl := lf_5 _ (List.mem_of_getElem? (i := 172) (by decide +kernel))
set_option maxRecDepth 20000 in
theorem tw_370 : (.instanceMethod yX12_train : Cond) ∈ lw_tbl := lf_5 _ (List.mem_of_getElem? (i := 171) (by decide +kernel))
set_option maxRecDepth 20000 in
theorem tw_371 : (.methodLink RL 40 yX12_train : Cond) ∈ lw_tbl := lf_5 _ (List.mem_of_getElem? (i := 170) (by decide +kernel))
theorem gL_m_train : GoodIn lw_tbl (wsV RL 40 RX12 yX12_train zs_m_train) := goodIn_app (goodIn_sub (List.forall_mem_cons.mpr ⟨tw_371, List.forall_mem_cons.mpr ⟨tw_370, List.forall_mem_cons.mpr ⟨tw_369, List.forall_mem_cons.mpr ⟨tw_198, fun _ h => absurd h List.not_mem_nil⟩⟩⟩⟩) (by decide +kernel)) (goodIn_sub tb_m_train gd_m_train)
set_option maxRecDepth 20000 in
theorem tw_372 : (.fieldLink RX8 15 "LanternHouse$Stock" "platesOfKind" "[I" : Cond) ∈ lw_tbl := lf_0 _ (List.mem_of_getElem? (i := 148) (by decide +kernel))
set_option maxRecDepth 20000 in
theorem tw_373 : (.fieldLink RX8 11 "LanternHouse$Stock" "kinds" "[I" : Cond) ∈ lw_tbl := lf_0 _ (List.mem_of_getElem? (i := 147) (by decide +kernel))
set_option maxRecDepth 20000 in
theorem tw_374 : (.fieldLink RX8 18 "LanternHouse$Stock" "size" "I" : Cond) ∈ lw_tbl := lf_0 _ (List.mem_of_getElem? (i := 150) (by decide +kernel))
set_option maxRecDepth 20000 in
theorem tw_375 : (.code yX8_add cX8_add 2 (some .int) : Cond) ∈ lw_tbl := lf_3 _ (List.mem_of_getElem? (i := 0) rfl)
theorem tb_c_sadd : ∀ w ∈ zs_c_sadd, w ∈ lw_tbl := List.forall_mem_cons.mpr ⟨tw_375, List.forall_mem_append.mpr ⟨List.forall_mem_cons.mpr ⟨tw_374, List.forall_mem_cons.mpr ⟨tw_373, List.forall_mem_cons.mpr ⟨tw_372, fun _ h => absurd h List.not_mem_nil⟩⟩⟩, List.forall_mem_append.mpr ⟨in_wsX80, fun _ h => absurd h List.not_mem_nil⟩⟩⟩
set_option maxRecDepth 20000 in
theorem tw_376 : (.initialized RX8 : Cond) ∈ lw_tbl := lf_0 _ (List.mem_of_getElem? (i := 6) (by decide +kernel))
set_option maxRecDepth 20000 in
theorem tw_377 : (.selects RX8 yX8_add yX8_add : Cond) ∈ lw_tbl := lf_2 _ (List.mem_of_getElem? (i := 239) (by decide +kernel))
set_option maxRecDepth 20000 in
theorem tw_378 : (.instanceMethod yX8_add : Cond) ∈ lw_tbl := lf_2 _ (List.mem_of_getElem? (i := 238) (by decide +kernel))
set_option maxRecDepth 20000 in
theorem tw_379 : (.methodLink RX11 134 yX8_add : Cond) ∈ lw_tbl := lf_2 _ (List.mem_of_getElem? (i := 237) (by decide +kernel))
set_option maxRecDepth 20000 in
theorem tw_380 : (.fieldLink RX11 42 "LanternHouse" "stock" "LLanternHouse$Stock;" : Cond) ∈ lw_tbl := lf_1 _ (List.mem_of_getElem? (i := 196) (by decide +kernel))
set_option maxRecDepth 20000 in
theorem tw_381 : (.code yX11_plate cX11_plate 2 (some .int) : Cond) ∈ lw_tbl := lf_2 _ (List.mem_of_getElem? (i := 236) rfl)
theorem tb_h_plate : ∀ w ∈ zs_h_plate, w ∈ lw_tbl := List.forall_mem_cons.mpr ⟨tw_381, List.forall_mem_append.mpr ⟨List.forall_mem_cons.mpr ⟨tw_380, List.forall_mem_cons.mpr ⟨tw_379, List.forall_mem_cons.mpr ⟨tw_378, List.forall_mem_cons.mpr ⟨tw_377, List.forall_mem_cons.mpr ⟨tw_376, fun _ h => absurd h List.not_mem_nil⟩⟩⟩⟩⟩, List.forall_mem_append.mpr ⟨tb_c_sadd, List.forall_mem_append.mpr ⟨in_wsX110, fun _ h => absurd h List.not_mem_nil⟩⟩⟩⟩
set_option maxRecDepth 20000 in
theorem tw_382 : (.selects RX11 yX11_plate yX11_plate : Cond) ∈ lw_tbl := lf_2 _ (List.mem_of_getElem? (i := 235) (by decide +kernel))
set_option maxRecDepth 20000 in
theorem tw_383 : (.instanceMethod yX11_plate : Cond) ∈ lw_tbl := lf_2 _ (List.mem_of_getElem? (i := 234) (by decide +kernel))
set_option maxRecDepth 20000 in
theorem tw_384 : (.methodLink RL 41 yX11_plate : Cond) ∈ lw_tbl := lf_2 _ (List.mem_of_getElem? (i := 233) (by decide +kernel))
theorem gL_h_plate : GoodIn lw_tbl (wsV RL 41 RX11 yX11_plate zs_h_plate) := goodIn_app (goodIn_sub (List.forall_mem_cons.mpr ⟨tw_384, List.forall_mem_cons.mpr ⟨tw_383, List.forall_mem_cons.mpr ⟨tw_382, List.forall_mem_cons.mpr ⟨tw_191, fun _ h => absurd h List.not_mem_nil⟩⟩⟩⟩) (by decide +kernel)) (goodIn_sub tb_h_plate gd_h_plate)
set_option maxRecDepth 20000 in
theorem tw_385 : (.fieldLink RX12 116 "LanternHouseModel" "kind" "[I" : Cond) ∈ lw_tbl := lf_4 _ (List.mem_of_getElem? (i := 104) (by decide +kernel))
set_option maxRecDepth 20000 in
theorem tw_386 : (.fieldLink RX12 320 "LanternHouseModel" "plates" "I" : Cond) ∈ lw_tbl := lf_4 _ (List.mem_of_getElem? (i := 103) (by decide +kernel))
set_option maxRecDepth 20000 in
theorem tw_387 : (.code yX12_plate cX12_plate 2 (some .int) : Cond) ∈ lw_tbl := lf_5 _ (List.mem_of_getElem? (i := 181) rfl)
theorem tb_m_plate : ∀ w ∈ zs_m_plate, w ∈ lw_tbl := List.forall_mem_cons.mpr ⟨tw_387, List.forall_mem_append.mpr ⟨List.forall_mem_cons.mpr ⟨tw_386, List.forall_mem_cons.mpr ⟨tw_385, fun _ h => absurd h List.not_mem_nil⟩⟩, List.forall_mem_append.mpr ⟨in_wsX120, fun _ h => absurd h List.not_mem_nil⟩⟩⟩
set_option maxRecDepth 20000 in
theorem tw_388 : (.selects RX12 yX12_plate yX12_plate : Cond) ∈ lw_tbl := lf_5 _ (List.mem_of_getElem? (i := 180) (by decide +kernel))
set_option maxRecDepth 20000 in
theorem tw_389 : (.instanceMethod yX12_plate : Cond) ∈ lw_tbl := lf_5 _ (List.mem_of_getElem? (i := 179) (by decide +kernel))
set_option maxRecDepth 20000 in
theorem tw_390 : (.methodLink RL 44 yX12_plate : Cond) ∈ lw_tbl := lf_5 _ (List.mem_of_getElem? (i := 178) (by decide +kernel))
theorem gL_m_plate : GoodIn lw_tbl (wsV RL 44 RX12 yX12_plate zs_m_plate) := goodIn_app (goodIn_sub (List.forall_mem_cons.mpr ⟨tw_390, List.forall_mem_cons.mpr ⟨tw_389, List.forall_mem_cons.mpr ⟨tw_388, List.forall_mem_cons.mpr ⟨tw_198, fun _ h => absurd h List.not_mem_nil⟩⟩⟩⟩) (by decide +kernel)) (goodIn_sub tb_m_plate gd_m_plate)
set_option maxRecDepth 20000 in
theorem tw_391 : (.fieldLink RX11 138 "LanternHouse$Keeper" "cleaningHours" "I" : Cond) ∈ lw_tbl := lf_1 _ (List.mem_of_getElem? (i := 81) (by decide +kernel))
set_option maxRecDepth 20000 in
theorem tw_392 : (.fieldLink RX11 70 "LanternHouse" "keeper" "LLanternHouse$Keeper;" : Cond) ∈ lw_tbl := lf_1 _ (List.mem_of_getElem? (i := 199) (by decide +kernel))
set_option maxRecDepth 20000 in
theorem tw_393 : (.code yX11_cleaning cX11_cleaning 2 (some .boolean) : Cond) ∈ lw_tbl := lf_3 _ (List.mem_of_getElem? (i := 4) rfl)
theorem tb_h_cleaning : ∀ w ∈ zs_h_cleaning, w ∈ lw_tbl := List.forall_mem_cons.mpr ⟨tw_393, List.forall_mem_append.mpr ⟨List.forall_mem_cons.mpr ⟨tw_392, List.forall_mem_cons.mpr ⟨tw_391, fun _ h => absurd h List.not_mem_nil⟩⟩, List.forall_mem_append.mpr ⟨in_wsX110, List.forall_mem_append.mpr ⟨in_wsX10, fun _ h => absurd h List.not_mem_nil⟩⟩⟩⟩
set_option maxRecDepth 20000 in
theorem tw_394 : (.selects RX11 yX11_cleaning yX11_cleaning : Cond) ∈ lw_tbl := lf_3 _ (List.mem_of_getElem? (i := 3) (by decide +kernel))
set_option maxRecDepth 20000 in
theorem tw_395 : (.instanceMethod yX11_cleaning : Cond) ∈ lw_tbl := lf_3 _ (List.mem_of_getElem? (i := 2) (by decide +kernel))
set_option maxRecDepth 20000 in
theorem tw_396 : (.methodLink RL 45 yX11_cleaning : Cond) ∈ lw_tbl := lf_3 _ (List.mem_of_getElem? (i := 1) (by decide +kernel))
theorem gL_h_cleaning : GoodIn lw_tbl (wsV RL 45 RX11 yX11_cleaning zs_h_cleaning) := goodIn_app (goodIn_sub (List.forall_mem_cons.mpr ⟨tw_396, List.forall_mem_cons.mpr ⟨tw_395, List.forall_mem_cons.mpr ⟨tw_394, List.forall_mem_cons.mpr ⟨tw_191, fun _ h => absurd h List.not_mem_nil⟩⟩⟩⟩) (by decide +kernel)) (goodIn_sub tb_h_cleaning gd_h_cleaning)
set_option maxRecDepth 20000 in
theorem tw_397 : (.fieldLink RX12 332 "LanternHouseModel" "cleaning" "I" : Cond) ∈ lw_tbl := lf_4 _ (List.mem_of_getElem? (i := 105) (by decide +kernel))
set_option maxRecDepth 20000 in
theorem tw_398 : (.code yX12_cleaning cX12_cleaning 2 (some .boolean) : Cond) ∈ lw_tbl := lf_5 _ (List.mem_of_getElem? (i := 185) rfl)
theorem tb_m_cleaning : ∀ w ∈ zs_m_cleaning, w ∈ lw_tbl := List.forall_mem_cons.mpr ⟨tw_398, List.forall_mem_append.mpr ⟨List.forall_mem_cons.mpr ⟨tw_397, fun _ h => absurd h List.not_mem_nil⟩, List.forall_mem_append.mpr ⟨in_wsX120, fun _ h => absurd h List.not_mem_nil⟩⟩⟩
set_option maxRecDepth 20000 in
theorem tw_399 : (.selects RX12 yX12_cleaning yX12_cleaning : Cond) ∈ lw_tbl := lf_5 _ (List.mem_of_getElem? (i := 184) (by decide +kernel))
set_option maxRecDepth 20000 in
theorem tw_400 : (.instanceMethod yX12_cleaning : Cond) ∈ lw_tbl := lf_5 _ (List.mem_of_getElem? (i := 183) (by decide +kernel))
set_option maxRecDepth 20000 in
theorem tw_401 : (.methodLink RL 49 yX12_cleaning : Cond) ∈ lw_tbl := lf_5 _ (List.mem_of_getElem? (i := 182) (by decide +kernel))
theorem gL_m_cleaning : GoodIn lw_tbl (wsV RL 49 RX12 yX12_cleaning zs_m_cleaning) := goodIn_app (goodIn_sub (List.forall_mem_cons.mpr ⟨tw_401, List.forall_mem_cons.mpr ⟨tw_400, List.forall_mem_cons.mpr ⟨tw_399, List.forall_mem_cons.mpr ⟨tw_198, fun _ h => absurd h List.not_mem_nil⟩⟩⟩⟩) (by decide +kernel)) (goodIn_sub tb_m_cleaning gd_m_cleaning)
set_option maxRecDepth 20000 in
theorem tw_402 : (.fieldLink RX11 141 "LanternHouse$Rails" "trains" "I" : Cond) ∈ lw_tbl := lf_0 _ (List.mem_of_getElem? (i := 123) (by decide +kernel))
set_option maxRecDepth 20000 in
theorem tw_403 : (.code yX11_cancel cX11_cancel 3 (some .int) : Cond) ∈ lw_tbl := lf_3 _ (List.mem_of_getElem? (i := 8) rfl)
theorem tb_h_cancel : ∀ w ∈ zs_h_cancel, w ∈ lw_tbl := List.forall_mem_cons.mpr ⟨tw_403, List.forall_mem_append.mpr ⟨List.forall_mem_cons.mpr ⟨tw_340, List.forall_mem_cons.mpr ⟨tw_402, fun _ h => absurd h List.not_mem_nil⟩⟩, List.forall_mem_append.mpr ⟨in_wsX110, List.forall_mem_append.mpr ⟨in_wsX40, fun _ h => absurd h List.not_mem_nil⟩⟩⟩⟩
set_option maxRecDepth 20000 in
theorem tw_404 : (.selects RX11 yX11_cancel yX11_cancel : Cond) ∈ lw_tbl := lf_3 _ (List.mem_of_getElem? (i := 7) (by decide +kernel))
set_option maxRecDepth 20000 in
theorem tw_405 : (.instanceMethod yX11_cancel : Cond) ∈ lw_tbl := lf_3 _ (List.mem_of_getElem? (i := 6) (by decide +kernel))
set_option maxRecDepth 20000 in
theorem tw_406 : (.methodLink RL 50 yX11_cancel : Cond) ∈ lw_tbl := lf_3 _ (List.mem_of_getElem? (i := 5) (by decide +kernel))
theorem gL_h_cancel : GoodIn lw_tbl (wsV RL 50 RX11 yX11_cancel zs_h_cancel) := goodIn_app (goodIn_sub (List.forall_mem_cons.mpr ⟨tw_406, List.forall_mem_cons.mpr ⟨tw_405, List.forall_mem_cons.mpr ⟨tw_404, List.forall_mem_cons.mpr ⟨tw_191, fun _ h => absurd h List.not_mem_nil⟩⟩⟩⟩) (by decide +kernel)) (goodIn_sub tb_h_cancel gd_h_cancel)
set_option maxRecDepth 20000 in
theorem tw_407 : (.fieldLink RX12 323 "LanternHouseModel" "facts" "I" : Cond) ∈ lw_tbl := lf_4 _ (List.mem_of_getElem? (i := 106) (by decide +kernel))
set_option maxRecDepth 20000 in
theorem tw_408 : (.code yX12_cancel cX12_cancel 3 (some .int) : Cond) ∈ lw_tbl := lf_5 _ (List.mem_of_getElem? (i := 189) rfl)
theorem tb_m_cancel : ∀ w ∈ zs_m_cancel, w ∈ lw_tbl := List.forall_mem_cons.mpr ⟨tw_408, List.forall_mem_append.mpr ⟨List.forall_mem_cons.mpr ⟨tw_407, List.forall_mem_cons.mpr ⟨tw_367, fun _ h => absurd h List.not_mem_nil⟩⟩, List.forall_mem_append.mpr ⟨in_wsX120, fun _ h => absurd h List.not_mem_nil⟩⟩⟩
set_option maxRecDepth 20000 in
theorem tw_409 : (.selects RX12 yX12_cancel yX12_cancel : Cond) ∈ lw_tbl := lf_5 _ (List.mem_of_getElem? (i := 188) (by decide +kernel))
set_option maxRecDepth 20000 in
theorem tw_410 : (.instanceMethod yX12_cancel : Cond) ∈ lw_tbl := lf_5 _ (List.mem_of_getElem? (i := 187) (by decide +kernel))
set_option maxRecDepth 20000 in
theorem tw_411 : (.methodLink RL 54 yX12_cancel : Cond) ∈ lw_tbl := lf_5 _ (List.mem_of_getElem? (i := 186) (by decide +kernel))
theorem gL_m_cancel : GoodIn lw_tbl (wsV RL 54 RX12 yX12_cancel zs_m_cancel) := goodIn_app (goodIn_sub (List.forall_mem_cons.mpr ⟨tw_411, List.forall_mem_cons.mpr ⟨tw_410, List.forall_mem_cons.mpr ⟨tw_409, List.forall_mem_cons.mpr ⟨tw_198, fun _ h => absurd h List.not_mem_nil⟩⟩⟩⟩) (by decide +kernel)) (goodIn_sub tb_m_cancel gd_m_cancel)
set_option maxRecDepth 20000 in
theorem tw_412 : (.fieldLink RX11 287 "LanternHouse$Stock" "size" "I" : Cond) ∈ lw_tbl := lf_0 _ (List.mem_of_getElem? (i := 152) (by decide +kernel))
set_option maxRecDepth 20000 in
theorem tw_413 : (.code yX11_isPlate cX11_isPlate 2 (some .boolean) : Cond) ∈ lw_tbl := lf_3 _ (List.mem_of_getElem? (i := 20) rfl)
theorem tb_h_isPlate : ∀ w ∈ zs_h_isPlate, w ∈ lw_tbl := List.forall_mem_cons.mpr ⟨tw_413, List.forall_mem_append.mpr ⟨List.forall_mem_cons.mpr ⟨tw_380, List.forall_mem_cons.mpr ⟨tw_412, fun _ h => absurd h List.not_mem_nil⟩⟩, List.forall_mem_append.mpr ⟨in_wsX110, List.forall_mem_append.mpr ⟨in_wsX80, fun _ h => absurd h List.not_mem_nil⟩⟩⟩⟩
set_option maxRecDepth 20000 in
theorem tw_414 : (.selects RX11 yX11_isPlate yX11_isPlate : Cond) ∈ lw_tbl := List.mem_append_left _ (List.mem_of_getElem? (i := 13) (by decide +kernel))
set_option maxRecDepth 20000 in
theorem tw_415 : (.instanceMethod yX11_isPlate : Cond) ∈ lw_tbl := lf_3 _ (List.mem_of_getElem? (i := 19) (by decide +kernel))
set_option maxRecDepth 20000 in
theorem tw_416 : (.methodLink RX11 147 yX11_isPlate : Cond) ∈ lw_tbl := lf_3 _ (List.mem_of_getElem? (i := 17) (by decide +kernel))
set_option maxRecDepth 20000 in
theorem tw_417 : (.code yX11_look cX11_look 4 (some .int) : Cond) ∈ lw_tbl := lf_3 _ (List.mem_of_getElem? (i := 16) rfl)
theorem tb_h_look : ∀ w ∈ zs_h_look, w ∈ lw_tbl := List.forall_mem_cons.mpr ⟨tw_417, List.forall_mem_append.mpr ⟨List.forall_mem_cons.mpr ⟨tw_416, List.forall_mem_cons.mpr ⟨tw_415, List.forall_mem_cons.mpr ⟨tw_414, List.forall_mem_cons.mpr ⟨tw_191, fun _ h => absurd h List.not_mem_nil⟩⟩⟩⟩, List.forall_mem_append.mpr ⟨tb_h_isPlate, fun _ h => absurd h List.not_mem_nil⟩⟩⟩
set_option maxRecDepth 20000 in
theorem tw_418 : (.selects RX11 yX11_look yX11_look : Cond) ∈ lw_tbl := lf_3 _ (List.mem_of_getElem? (i := 15) (by decide +kernel))
set_option maxRecDepth 20000 in
theorem tw_419 : (.instanceMethod yX11_look : Cond) ∈ lw_tbl := lf_3 _ (List.mem_of_getElem? (i := 14) (by decide +kernel))
set_option maxRecDepth 20000 in
theorem tw_420 : (.methodLink RL 55 yX11_look : Cond) ∈ lw_tbl := lf_3 _ (List.mem_of_getElem? (i := 13) (by decide +kernel))
theorem gL_h_look : GoodIn lw_tbl (wsV RL 55 RX11 yX11_look zs_h_look) := goodIn_app (goodIn_sub (List.forall_mem_cons.mpr ⟨tw_420, List.forall_mem_cons.mpr ⟨tw_419, List.forall_mem_cons.mpr ⟨tw_418, List.forall_mem_cons.mpr ⟨tw_191, fun _ h => absurd h List.not_mem_nil⟩⟩⟩⟩) (by decide +kernel)) (goodIn_sub tb_h_look gd_h_look)
set_option maxRecDepth 20000 in
theorem tw_421 : (.code yX12_isPlate cX12_isPlate 2 (some .boolean) : Cond) ∈ lw_tbl := lf_5 _ (List.mem_of_getElem? (i := 201) rfl)
theorem tb_m_isPlate : ∀ w ∈ zs_m_isPlate, w ∈ lw_tbl := List.forall_mem_cons.mpr ⟨tw_421, List.forall_mem_append.mpr ⟨List.forall_mem_cons.mpr ⟨tw_386, fun _ h => absurd h List.not_mem_nil⟩, List.forall_mem_append.mpr ⟨in_wsX120, fun _ h => absurd h List.not_mem_nil⟩⟩⟩
set_option maxRecDepth 20000 in
theorem tw_422 : (.selects RX12 yX12_isPlate yX12_isPlate : Cond) ∈ lw_tbl := List.mem_append_left _ (List.mem_of_getElem? (i := 48) (by decide +kernel))
set_option maxRecDepth 20000 in
theorem tw_423 : (.instanceMethod yX12_isPlate : Cond) ∈ lw_tbl := lf_5 _ (List.mem_of_getElem? (i := 200) (by decide +kernel))
set_option maxRecDepth 20000 in
theorem tw_424 : (.methodLink RX12 338 yX12_isPlate : Cond) ∈ lw_tbl := lf_5 _ (List.mem_of_getElem? (i := 198) (by decide +kernel))
set_option maxRecDepth 20000 in
theorem tw_425 : (.code yX12_look cX12_look 4 (some .int) : Cond) ∈ lw_tbl := lf_5 _ (List.mem_of_getElem? (i := 197) rfl)
theorem tb_m_look : ∀ w ∈ zs_m_look, w ∈ lw_tbl := List.forall_mem_cons.mpr ⟨tw_425, List.forall_mem_append.mpr ⟨List.forall_mem_cons.mpr ⟨tw_407, List.forall_mem_cons.mpr ⟨tw_424, List.forall_mem_cons.mpr ⟨tw_423, List.forall_mem_cons.mpr ⟨tw_422, List.forall_mem_cons.mpr ⟨tw_198, fun _ h => absurd h List.not_mem_nil⟩⟩⟩⟩⟩, List.forall_mem_append.mpr ⟨tb_m_isPlate, List.forall_mem_append.mpr ⟨in_wsX120, fun _ h => absurd h List.not_mem_nil⟩⟩⟩⟩
set_option maxRecDepth 20000 in
theorem tw_426 : (.selects RX12 yX12_look yX12_look : Cond) ∈ lw_tbl := lf_5 _ (List.mem_of_getElem? (i := 196) (by decide +kernel))
set_option maxRecDepth 20000 in
theorem tw_427 : (.instanceMethod yX12_look : Cond) ∈ lw_tbl := lf_5 _ (List.mem_of_getElem? (i := 195) (by decide +kernel))
set_option maxRecDepth 20000 in
theorem tw_428 : (.methodLink RL 59 yX12_look : Cond) ∈ lw_tbl := lf_5 _ (List.mem_of_getElem? (i := 194) (by decide +kernel))
theorem gL_m_look : GoodIn lw_tbl (wsV RL 59 RX12 yX12_look zs_m_look) := goodIn_app (goodIn_sub (List.forall_mem_cons.mpr ⟨tw_428, List.forall_mem_cons.mpr ⟨tw_427, List.forall_mem_cons.mpr ⟨tw_426, List.forall_mem_cons.mpr ⟨tw_198, fun _ h => absurd h List.not_mem_nil⟩⟩⟩⟩) (by decide +kernel)) (goodIn_sub tb_m_look gd_m_look)
set_option maxRecDepth 20000 in
theorem tw_429 : (.code yX7_isTaken cX7_isTaken 4 (some .boolean) : Cond) ∈ lw_tbl := lf_3 _ (List.mem_of_getElem? (i := 37) rfl)
theorem tb_c_isTaken : ∀ w ∈ zs_c_isTaken, w ∈ lw_tbl := List.forall_mem_cons.mpr ⟨tw_429, List.forall_mem_append.mpr ⟨List.forall_mem_cons.mpr ⟨tw_263, fun _ h => absurd h List.not_mem_nil⟩, List.forall_mem_append.mpr ⟨in_wsX70, fun _ h => absurd h List.not_mem_nil⟩⟩⟩
set_option maxRecDepth 20000 in
theorem tw_430 : (.selects RX7 yX7_isTaken yX7_isTaken : Cond) ∈ lw_tbl := List.mem_append_left _ (List.mem_of_getElem? (i := 15) (by decide +kernel))
set_option maxRecDepth 20000 in
theorem tw_431 : (.instanceMethod yX7_isTaken : Cond) ∈ lw_tbl := lf_3 _ (List.mem_of_getElem? (i := 36) (by decide +kernel))
set_option maxRecDepth 20000 in
theorem tw_432 : (.methodLink RX7 38 yX7_isTaken : Cond) ∈ lw_tbl := lf_3 _ (List.mem_of_getElem? (i := 34) (by decide +kernel))
set_option maxRecDepth 20000 in
theorem tw_433 : (.fieldLink RX7 42 "LanternHouse$Lectures" "size" "I" : Cond) ∈ lw_tbl := lf_0 _ (List.mem_of_getElem? (i := 227) (by decide +kernel))
set_option maxRecDepth 20000 in
theorem tw_434 : (.code yX7_add cX7_add 6 (some .int) : Cond) ∈ lw_tbl := lf_3 _ (List.mem_of_getElem? (i := 33) rfl)
theorem tb_c_shadd : ∀ w ∈ zs_c_shadd, w ∈ lw_tbl := List.forall_mem_cons.mpr ⟨tw_434, List.forall_mem_append.mpr ⟨List.forall_mem_cons.mpr ⟨tw_263, List.forall_mem_cons.mpr ⟨tw_264, List.forall_mem_cons.mpr ⟨tw_433, List.forall_mem_cons.mpr ⟨tw_432, List.forall_mem_cons.mpr ⟨tw_431, List.forall_mem_cons.mpr ⟨tw_430, List.forall_mem_cons.mpr ⟨tw_266, fun _ h => absurd h List.not_mem_nil⟩⟩⟩⟩⟩⟩⟩, List.forall_mem_append.mpr ⟨tb_c_isTaken, List.forall_mem_append.mpr ⟨in_wsX70, List.forall_mem_append.mpr ⟨in_wsX20, fun _ h => absurd h List.not_mem_nil⟩⟩⟩⟩⟩
set_option maxRecDepth 20000 in
theorem tw_435 : (.selects RX7 yX7_add yX7_add : Cond) ∈ lw_tbl := lf_3 _ (List.mem_of_getElem? (i := 32) (by decide +kernel))
set_option maxRecDepth 20000 in
theorem tw_436 : (.instanceMethod yX7_add : Cond) ∈ lw_tbl := lf_3 _ (List.mem_of_getElem? (i := 31) (by decide +kernel))
set_option maxRecDepth 20000 in
theorem tw_437 : (.methodLink RX11 157 yX7_add : Cond) ∈ lw_tbl := lf_3 _ (List.mem_of_getElem? (i := 30) (by decide +kernel))
set_option maxRecDepth 20000 in
theorem tw_438 : (.methodLink RX11 154 yX4_isHall : Cond) ∈ lw_tbl := lf_3 _ (List.mem_of_getElem? (i := 29) (by decide +kernel))
set_option maxRecDepth 20000 in
theorem tw_439 : (.code yX11_show cX11_show 6 (some .int) : Cond) ∈ lw_tbl := lf_3 _ (List.mem_of_getElem? (i := 28) rfl)
theorem tb_h_show : ∀ w ∈ zs_h_show, w ∈ lw_tbl := List.forall_mem_cons.mpr ⟨tw_439, List.forall_mem_append.mpr ⟨List.forall_mem_cons.mpr ⟨tw_340, List.forall_mem_cons.mpr ⟨tw_278, List.forall_mem_cons.mpr ⟨tw_438, List.forall_mem_cons.mpr ⟨tw_352, List.forall_mem_cons.mpr ⟨tw_351, List.forall_mem_cons.mpr ⟨tw_336, List.forall_mem_cons.mpr ⟨tw_437, List.forall_mem_cons.mpr ⟨tw_436, List.forall_mem_cons.mpr ⟨tw_435, List.forall_mem_cons.mpr ⟨tw_266, fun _ h => absurd h List.not_mem_nil⟩⟩⟩⟩⟩⟩⟩⟩⟩⟩, List.forall_mem_append.mpr ⟨tb_c_isHall, List.forall_mem_append.mpr ⟨tb_c_shadd, List.forall_mem_append.mpr ⟨in_wsX110, fun _ h => absurd h List.not_mem_nil⟩⟩⟩⟩⟩
set_option maxRecDepth 20000 in
theorem tw_440 : (.selects RX11 yX11_show yX11_show : Cond) ∈ lw_tbl := lf_3 _ (List.mem_of_getElem? (i := 27) (by decide +kernel))
set_option maxRecDepth 20000 in
theorem tw_441 : (.instanceMethod yX11_show : Cond) ∈ lw_tbl := lf_3 _ (List.mem_of_getElem? (i := 26) (by decide +kernel))
set_option maxRecDepth 20000 in
theorem tw_442 : (.methodLink RL 60 yX11_show : Cond) ∈ lw_tbl := lf_3 _ (List.mem_of_getElem? (i := 25) (by decide +kernel))
theorem gL_h_show : GoodIn lw_tbl (wsV RL 60 RX11 yX11_show zs_h_show) := goodIn_app (goodIn_sub (List.forall_mem_cons.mpr ⟨tw_442, List.forall_mem_cons.mpr ⟨tw_441, List.forall_mem_cons.mpr ⟨tw_440, List.forall_mem_cons.mpr ⟨tw_191, fun _ h => absurd h List.not_mem_nil⟩⟩⟩⟩) (by decide +kernel)) (goodIn_sub tb_h_show gd_h_show)
set_option maxRecDepth 20000 in
theorem tw_443 : (.code yX12_show cX12_show 7 (some .int) : Cond) ∈ lw_tbl := lf_5 _ (List.mem_of_getElem? (i := 237) rfl)
theorem tb_m_show : ∀ w ∈ zs_m_show, w ∈ lw_tbl := List.forall_mem_cons.mpr ⟨tw_443, List.forall_mem_append.mpr ⟨List.forall_mem_cons.mpr ⟨tw_312, List.forall_mem_cons.mpr ⟨tw_316, List.forall_mem_cons.mpr ⟨tw_318, List.forall_mem_cons.mpr ⟨tw_366, List.forall_mem_cons.mpr ⟨tw_365, List.forall_mem_cons.mpr ⟨tw_364, List.forall_mem_cons.mpr ⟨tw_198, fun _ h => absurd h List.not_mem_nil⟩⟩⟩⟩⟩⟩⟩, List.forall_mem_append.mpr ⟨tb_m_isHall, List.forall_mem_append.mpr ⟨in_wsX120, fun _ h => absurd h List.not_mem_nil⟩⟩⟩⟩
set_option maxRecDepth 20000 in
theorem tw_444 : (.selects RX12 yX12_show yX12_show : Cond) ∈ lw_tbl := lf_5 _ (List.mem_of_getElem? (i := 236) (by decide +kernel))
set_option maxRecDepth 20000 in
theorem tw_445 : (.instanceMethod yX12_show : Cond) ∈ lw_tbl := lf_5 _ (List.mem_of_getElem? (i := 235) (by decide +kernel))
set_option maxRecDepth 20000 in
theorem tw_446 : (.methodLink RL 63 yX12_show : Cond) ∈ lw_tbl := lf_5 _ (List.mem_of_getElem? (i := 234) (by decide +kernel))
theorem gL_m_show : GoodIn lw_tbl (wsV RL 63 RX12 yX12_show zs_m_show) := goodIn_app (goodIn_sub (List.forall_mem_cons.mpr ⟨tw_446, List.forall_mem_cons.mpr ⟨tw_445, List.forall_mem_cons.mpr ⟨tw_444, List.forall_mem_cons.mpr ⟨tw_198, fun _ h => absurd h List.not_mem_nil⟩⟩⟩⟩) (by decide +kernel)) (goodIn_sub tb_m_show gd_m_show)
set_option maxRecDepth 20000 in
theorem tw_447 : (.code yX11_isHour cX11_isHour 2 (some .boolean) : Cond) ∈ lw_tbl := lf_3 _ (List.mem_of_getElem? (i := 24) rfl)
theorem tb_h_isHour : ∀ w ∈ zs_h_isHour, w ∈ lw_tbl := List.forall_mem_cons.mpr ⟨tw_447, List.forall_mem_append.mpr ⟨fun _ h => absurd h List.not_mem_nil, fun _ h => absurd h List.not_mem_nil⟩⟩
set_option maxRecDepth 20000 in
theorem tw_448 : (.fieldLink RX0 26 "LanternHouse$Facts" "size" "I" : Cond) ∈ lw_tbl := lf_0 _ (List.mem_of_getElem? (i := 174) (by decide +kernel))
set_option maxRecDepth 20000 in
theorem tw_449 : (.code yX0_isKnown cX0_isKnown 2 (some .boolean) : Cond) ∈ lw_tbl := lf_3 _ (List.mem_of_getElem? (i := 49) rfl)
theorem tb_c_isKnown : ∀ w ∈ zs_c_isKnown, w ∈ lw_tbl := List.forall_mem_cons.mpr ⟨tw_449, List.forall_mem_append.mpr ⟨List.forall_mem_cons.mpr ⟨tw_448, fun _ h => absurd h List.not_mem_nil⟩, List.forall_mem_append.mpr ⟨in_wsX00, fun _ h => absurd h List.not_mem_nil⟩⟩⟩
set_option maxRecDepth 20000 in
theorem tw_450 : (.code yJ7_fill_d0a16 cJ7_fill_d0a16 5 none : Cond) ∈ lw_tbl := lf_3 _ (List.mem_of_getElem? (i := 56) rfl)
theorem tb_c_fillJ : ∀ w ∈ zs_c_fillJ, w ∈ lw_tbl := List.forall_mem_cons.mpr ⟨tw_450, List.forall_mem_append.mpr ⟨fun _ h => absurd h List.not_mem_nil, fun _ h => absurd h List.not_mem_nil⟩⟩
set_option maxRecDepth 20000 in
theorem tw_451 : (.initialized RJ7 : Cond) ∈ lw_tbl := lf_0 _ (List.mem_of_getElem? (i := 18) (by decide +kernel))
set_option maxRecDepth 20000 in
theorem tw_452 : (.static yJ7_fill_d0a16 : Cond) ∈ lw_tbl := lf_3 _ (List.mem_of_getElem? (i := 55) (by decide +kernel))
set_option maxRecDepth 20000 in
theorem tw_453 : (.methodLink RX4 42 yJ7_fill_d0a16 : Cond) ∈ lw_tbl := lf_3 _ (List.mem_of_getElem? (i := 54) (by decide +kernel))
set_option maxRecDepth 20000 in
theorem tw_454 : (.fieldLink RX4 24 "LanternHouse$Rails" "idleDays" "[J" : Cond) ∈ lw_tbl := lf_0 _ (List.mem_of_getElem? (i := 118) (by decide +kernel))
set_option maxRecDepth 20000 in
theorem tw_455 : (.code yX4_learn cX4_learn 4 none : Cond) ∈ lw_tbl := lf_3 _ (List.mem_of_getElem? (i := 53) rfl)
theorem tb_c_learn : ∀ w ∈ zs_c_learn, w ∈ lw_tbl := List.forall_mem_cons.mpr ⟨tw_455, List.forall_mem_append.mpr ⟨List.forall_mem_cons.mpr ⟨tw_454, List.forall_mem_cons.mpr ⟨tw_453, List.forall_mem_cons.mpr ⟨tw_452, List.forall_mem_cons.mpr ⟨tw_451, fun _ h => absurd h List.not_mem_nil⟩⟩⟩⟩, List.forall_mem_append.mpr ⟨tb_c_fillJ, List.forall_mem_append.mpr ⟨in_wsX40, fun _ h => absurd h List.not_mem_nil⟩⟩⟩⟩
set_option maxRecDepth 20000 in
theorem tw_456 : (.code yJ7_fill_53178 cJ7_fill_53178 4 none : Cond) ∈ lw_tbl := lf_3 _ (List.mem_of_getElem? (i := 67) rfl)
theorem tb_c_fillI : ∀ w ∈ zs_c_fillI, w ∈ lw_tbl := List.forall_mem_cons.mpr ⟨tw_456, List.forall_mem_append.mpr ⟨fun _ h => absurd h List.not_mem_nil, fun _ h => absurd h List.not_mem_nil⟩⟩
set_option maxRecDepth 20000 in
theorem tw_457 : (.static yJ7_fill_53178 : Cond) ∈ lw_tbl := lf_3 _ (List.mem_of_getElem? (i := 66) (by decide +kernel))
set_option maxRecDepth 20000 in
theorem tw_458 : (.methodLink RX4 63 yJ7_fill_53178 : Cond) ∈ lw_tbl := lf_3 _ (List.mem_of_getElem? (i := 65) (by decide +kernel))
set_option maxRecDepth 20000 in
theorem tw_459 : (.code yX4_spread cX4_spread 11 none : Cond) ∈ lw_tbl := lf_3 _ (List.mem_of_getElem? (i := 64) rfl)
theorem tb_c_spread : ∀ w ∈ zs_c_spread, w ∈ lw_tbl := List.forall_mem_cons.mpr ⟨tw_459, List.forall_mem_append.mpr ⟨List.forall_mem_cons.mpr ⟨tw_354, List.forall_mem_cons.mpr ⟨tw_458, List.forall_mem_cons.mpr ⟨tw_457, List.forall_mem_cons.mpr ⟨tw_451, fun _ h => absurd h List.not_mem_nil⟩⟩⟩⟩, List.forall_mem_append.mpr ⟨tb_c_fillI, List.forall_mem_append.mpr ⟨in_wsX40, fun _ h => absurd h List.not_mem_nil⟩⟩⟩⟩
set_option maxRecDepth 20000 in
theorem tw_460 : (.selects RX4 yX4_spread yX4_spread : Cond) ∈ lw_tbl := lf_3 _ (List.mem_of_getElem? (i := 63) (by decide +kernel))
set_option maxRecDepth 20000 in
theorem tw_461 : (.instanceMethod yX4_spread : Cond) ∈ lw_tbl := lf_3 _ (List.mem_of_getElem? (i := 62) (by decide +kernel))
set_option maxRecDepth 20000 in
theorem tw_462 : (.methodLink RX4 59 yX4_spread : Cond) ∈ lw_tbl := lf_3 _ (List.mem_of_getElem? (i := 61) (by decide +kernel))
set_option maxRecDepth 20000 in
theorem tw_463 : (.fieldLink RX4 28 "LanternHouse$Rails" "reached" "[I" : Cond) ∈ lw_tbl := lf_0 _ (List.mem_of_getElem? (i := 119) (by decide +kernel))
set_option maxRecDepth 20000 in
theorem tw_464 : (.code yX4_soonest cX4_soonest 4 (some .int) : Cond) ∈ lw_tbl := lf_3 _ (List.mem_of_getElem? (i := 60) rfl)
theorem tb_c_soonest : ∀ w ∈ zs_c_soonest, w ∈ lw_tbl := List.forall_mem_cons.mpr ⟨tw_464, List.forall_mem_append.mpr ⟨List.forall_mem_cons.mpr ⟨tw_463, List.forall_mem_cons.mpr ⟨tw_462, List.forall_mem_cons.mpr ⟨tw_461, List.forall_mem_cons.mpr ⟨tw_460, List.forall_mem_cons.mpr ⟨tw_336, fun _ h => absurd h List.not_mem_nil⟩⟩⟩⟩⟩, List.forall_mem_append.mpr ⟨tb_c_spread, List.forall_mem_append.mpr ⟨in_wsX40, fun _ h => absurd h List.not_mem_nil⟩⟩⟩⟩
set_option maxRecDepth 20000 in
theorem tw_465 : (.selects RX4 yX4_soonest yX4_soonest : Cond) ∈ lw_tbl := lf_3 _ (List.mem_of_getElem? (i := 59) (by decide +kernel))
set_option maxRecDepth 20000 in
theorem tw_466 : (.instanceMethod yX4_soonest : Cond) ∈ lw_tbl := lf_3 _ (List.mem_of_getElem? (i := 58) (by decide +kernel))
set_option maxRecDepth 20000 in
theorem tw_467 : (.methodLink RX11 167 yX4_soonest : Cond) ∈ lw_tbl := lf_3 _ (List.mem_of_getElem? (i := 57) (by decide +kernel))
set_option maxRecDepth 20000 in
theorem tw_468 : (.selects RX4 yX4_learn yX4_learn : Cond) ∈ lw_tbl := lf_3 _ (List.mem_of_getElem? (i := 52) (by decide +kernel))
set_option maxRecDepth 20000 in
theorem tw_469 : (.instanceMethod yX4_learn : Cond) ∈ lw_tbl := lf_3 _ (List.mem_of_getElem? (i := 51) (by decide +kernel))
set_option maxRecDepth 20000 in
theorem tw_470 : (.methodLink RX11 163 yX4_learn : Cond) ∈ lw_tbl := lf_3 _ (List.mem_of_getElem? (i := 50) (by decide +kernel))
set_option maxRecDepth 20000 in
theorem tw_471 : (.initialized RX0 : Cond) ∈ lw_tbl := lf_0 _ (List.mem_of_getElem? (i := 7) (by decide +kernel))
set_option maxRecDepth 20000 in
theorem tw_472 : (.selects RX0 yX0_isKnown yX0_isKnown : Cond) ∈ lw_tbl := lf_3 _ (List.mem_of_getElem? (i := 48) (by decide +kernel))
set_option maxRecDepth 20000 in
theorem tw_473 : (.instanceMethod yX0_isKnown : Cond) ∈ lw_tbl := lf_3 _ (List.mem_of_getElem? (i := 47) (by decide +kernel))
set_option maxRecDepth 20000 in
theorem tw_474 : (.methodLink RX11 160 yX0_isKnown : Cond) ∈ lw_tbl := lf_3 _ (List.mem_of_getElem? (i := 46) (by decide +kernel))
set_option maxRecDepth 20000 in
theorem tw_475 : (.selects RX11 yX11_isHour yX11_isHour : Cond) ∈ lw_tbl := List.mem_append_left _ (List.mem_of_getElem? (i := 14) (by decide +kernel))
set_option maxRecDepth 20000 in
theorem tw_476 : (.instanceMethod yX11_isHour : Cond) ∈ lw_tbl := lf_3 _ (List.mem_of_getElem? (i := 23) (by decide +kernel))
set_option maxRecDepth 20000 in
theorem tw_477 : (.methodLink RX11 151 yX11_isHour : Cond) ∈ lw_tbl := lf_3 _ (List.mem_of_getElem? (i := 21) (by decide +kernel))
set_option maxRecDepth 20000 in
theorem tw_478 : (.fieldLink RX11 49 "LanternHouse" "facts" "LLanternHouse$Facts;" : Cond) ∈ lw_tbl := lf_1 _ (List.mem_of_getElem? (i := 197) (by decide +kernel))
set_option maxRecDepth 20000 in
theorem tw_479 : (.code yX11_way cX11_way 5 (some .int) : Cond) ∈ lw_tbl := lf_3 _ (List.mem_of_getElem? (i := 45) rfl)
theorem tb_h_way : ∀ w ∈ zs_h_way, w ∈ lw_tbl := List.forall_mem_cons.mpr ⟨tw_479, List.forall_mem_append.mpr ⟨List.forall_mem_cons.mpr ⟨tw_340, List.forall_mem_cons.mpr ⟨tw_478, List.forall_mem_cons.mpr ⟨tw_438, List.forall_mem_cons.mpr ⟨tw_352, List.forall_mem_cons.mpr ⟨tw_351, List.forall_mem_cons.mpr ⟨tw_336, List.forall_mem_cons.mpr ⟨tw_477, List.forall_mem_cons.mpr ⟨tw_476, List.forall_mem_cons.mpr ⟨tw_475, List.forall_mem_cons.mpr ⟨tw_191, List.forall_mem_cons.mpr ⟨tw_474, List.forall_mem_cons.mpr ⟨tw_473, List.forall_mem_cons.mpr ⟨tw_472, List.forall_mem_cons.mpr ⟨tw_471, List.forall_mem_cons.mpr ⟨tw_470, List.forall_mem_cons.mpr ⟨tw_469, List.forall_mem_cons.mpr ⟨tw_468, List.forall_mem_cons.mpr ⟨tw_467, List.forall_mem_cons.mpr ⟨tw_466, List.forall_mem_cons.mpr ⟨tw_465, fun _ h => absurd h List.not_mem_nil⟩⟩⟩⟩⟩⟩⟩⟩⟩⟩⟩⟩⟩⟩⟩⟩⟩⟩⟩⟩, List.forall_mem_append.mpr ⟨tb_c_isHall, List.forall_mem_append.mpr ⟨tb_h_isHour, List.forall_mem_append.mpr ⟨tb_c_isKnown, List.forall_mem_append.mpr ⟨tb_c_learn, List.forall_mem_append.mpr ⟨tb_c_soonest, List.forall_mem_append.mpr ⟨in_wsX110, fun _ h => absurd h List.not_mem_nil⟩⟩⟩⟩⟩⟩⟩⟩
set_option maxRecDepth 20000 in
theorem tw_480 : (.selects RX11 yX11_way yX11_way : Cond) ∈ lw_tbl := lf_3 _ (List.mem_of_getElem? (i := 44) (by decide +kernel))
set_option maxRecDepth 20000 in
theorem tw_481 : (.instanceMethod yX11_way : Cond) ∈ lw_tbl := lf_3 _ (List.mem_of_getElem? (i := 43) (by decide +kernel))
set_option maxRecDepth 20000 in
theorem tw_482 : (.methodLink RL 64 yX11_way : Cond) ∈ lw_tbl := lf_3 _ (List.mem_of_getElem? (i := 42) (by decide +kernel))
theorem gL_h_way : GoodIn lw_tbl (wsV RL 64 RX11 yX11_way zs_h_way) := goodIn_app (goodIn_sub (List.forall_mem_cons.mpr ⟨tw_482, List.forall_mem_cons.mpr ⟨tw_481, List.forall_mem_cons.mpr ⟨tw_480, List.forall_mem_cons.mpr ⟨tw_191, fun _ h => absurd h List.not_mem_nil⟩⟩⟩⟩) (by decide +kernel)) (goodIn_sub tb_h_way gd_h_way)
set_option maxRecDepth 20000 in
theorem tw_483 : (.code yX12_isHour cX12_isHour 1 (some .boolean) : Cond) ∈ lw_tbl := lf_5 _ (List.mem_of_getElem? (i := 204) rfl)
theorem tb_m_isHour : ∀ w ∈ zs_m_isHour, w ∈ lw_tbl := List.forall_mem_cons.mpr ⟨tw_483, List.forall_mem_append.mpr ⟨fun _ h => absurd h List.not_mem_nil, fun _ h => absurd h List.not_mem_nil⟩⟩
set_option maxRecDepth 20000 in
theorem tw_484 : (.code yX12_isKnown cX12_isKnown 2 (some .boolean) : Cond) ∈ lw_tbl := lf_5 _ (List.mem_of_getElem? (i := 212) rfl)
theorem tb_m_isKnown : ∀ w ∈ zs_m_isKnown, w ∈ lw_tbl := List.forall_mem_cons.mpr ⟨tw_484, List.forall_mem_append.mpr ⟨List.forall_mem_cons.mpr ⟨tw_407, fun _ h => absurd h List.not_mem_nil⟩, List.forall_mem_append.mpr ⟨in_wsX120, fun _ h => absurd h List.not_mem_nil⟩⟩⟩
set_option maxRecDepth 20000 in
theorem tw_485 : (.fieldLink RX12 131 "LanternHouseModel" "still" "[Z" : Cond) ∈ lw_tbl := lf_4 _ (List.mem_of_getElem? (i := 111) (by decide +kernel))
set_option maxRecDepth 20000 in
theorem tw_486 : (.fieldLink RX12 128 "LanternHouseModel" "stillFor" "I" : Cond) ∈ lw_tbl := lf_4 _ (List.mem_of_getElem? (i := 110) (by decide +kernel))
set_option maxRecDepth 20000 in
theorem tw_487 : (.code yX12_knows cX12_knows 3 none : Cond) ∈ lw_tbl := lf_5 _ (List.mem_of_getElem? (i := 224) rfl)
theorem tb_m_knows : ∀ w ∈ zs_m_knows, w ∈ lw_tbl := List.forall_mem_cons.mpr ⟨tw_487, List.forall_mem_append.mpr ⟨List.forall_mem_cons.mpr ⟨tw_486, List.forall_mem_cons.mpr ⟨tw_485, fun _ h => absurd h List.not_mem_nil⟩⟩, List.forall_mem_append.mpr ⟨in_wsX120, fun _ h => absurd h List.not_mem_nil⟩⟩⟩
set_option maxRecDepth 20000 in
theorem tw_488 : (.constant RX12 351 (1000000) : Cond) ∈ lw_tbl := lf_5 _ (List.mem_of_getElem? (i := 229) (by decide +kernel))
set_option maxRecDepth 20000 in
theorem tw_489 : (.fieldLink RX12 134 "LanternHouseModel" "soonest" "[I" : Cond) ∈ lw_tbl := lf_4 _ (List.mem_of_getElem? (i := 112) (by decide +kernel))
set_option maxRecDepth 20000 in
theorem tw_490 : (.code yX12_wayTo cX12_wayTo 8 (some .int) : Cond) ∈ lw_tbl := lf_5 _ (List.mem_of_getElem? (i := 228) rfl)
theorem tb_m_wayTo : ∀ w ∈ zs_m_wayTo, w ∈ lw_tbl := List.forall_mem_cons.mpr ⟨tw_490, List.forall_mem_append.mpr ⟨List.forall_mem_cons.mpr ⟨tw_489, List.forall_mem_cons.mpr ⟨tw_488, List.forall_mem_cons.mpr ⟨tw_367, fun _ h => absurd h List.not_mem_nil⟩⟩⟩, List.forall_mem_append.mpr ⟨in_wsX120, fun _ h => absurd h List.not_mem_nil⟩⟩⟩
set_option maxRecDepth 20000 in
theorem tw_491 : (.selects RX12 yX12_wayTo yX12_wayTo : Cond) ∈ lw_tbl := List.mem_append_left _ (List.mem_of_getElem? (i := 52) (by decide +kernel))
set_option maxRecDepth 20000 in
theorem tw_492 : (.instanceMethod yX12_wayTo : Cond) ∈ lw_tbl := lf_5 _ (List.mem_of_getElem? (i := 227) (by decide +kernel))
set_option maxRecDepth 20000 in
theorem tw_493 : (.methodLink RX12 358 yX12_wayTo : Cond) ∈ lw_tbl := lf_5 _ (List.mem_of_getElem? (i := 225) (by decide +kernel))
set_option maxRecDepth 20000 in
theorem tw_494 : (.selects RX12 yX12_knows yX12_knows : Cond) ∈ lw_tbl := List.mem_append_left _ (List.mem_of_getElem? (i := 51) (by decide +kernel))
set_option maxRecDepth 20000 in
theorem tw_495 : (.instanceMethod yX12_knows : Cond) ∈ lw_tbl := lf_5 _ (List.mem_of_getElem? (i := 223) (by decide +kernel))
set_option maxRecDepth 20000 in
theorem tw_496 : (.methodLink RX12 355 yX12_knows : Cond) ∈ lw_tbl := lf_5 _ (List.mem_of_getElem? (i := 221) (by decide +kernel))
set_option maxRecDepth 20000 in
theorem tw_497 : (.selects RX12 yX12_isKnown yX12_isKnown : Cond) ∈ lw_tbl := List.mem_append_left _ (List.mem_of_getElem? (i := 49) (by decide +kernel))
set_option maxRecDepth 20000 in
theorem tw_498 : (.instanceMethod yX12_isKnown : Cond) ∈ lw_tbl := lf_5 _ (List.mem_of_getElem? (i := 211) (by decide +kernel))
set_option maxRecDepth 20000 in
theorem tw_499 : (.methodLink RX12 344 yX12_isKnown : Cond) ∈ lw_tbl := lf_5 _ (List.mem_of_getElem? (i := 209) (by decide +kernel))
set_option maxRecDepth 20000 in
theorem tw_500 : (.static yX12_isHour : Cond) ∈ lw_tbl := lf_5 _ (List.mem_of_getElem? (i := 203) (by decide +kernel))
set_option maxRecDepth 20000 in
theorem tw_501 : (.methodLink RX12 341 yX12_isHour : Cond) ∈ lw_tbl := lf_5 _ (List.mem_of_getElem? (i := 202) (by decide +kernel))
set_option maxRecDepth 20000 in
theorem tw_502 : (.code yX12_way cX12_way 6 (some .int) : Cond) ∈ lw_tbl := lf_5 _ (List.mem_of_getElem? (i := 220) rfl)
theorem tb_m_way : ∀ w ∈ zs_m_way, w ∈ lw_tbl := List.forall_mem_cons.mpr ⟨tw_502, List.forall_mem_append.mpr ⟨List.forall_mem_cons.mpr ⟨tw_488, List.forall_mem_cons.mpr ⟨tw_366, List.forall_mem_cons.mpr ⟨tw_365, List.forall_mem_cons.mpr ⟨tw_364, List.forall_mem_cons.mpr ⟨tw_198, List.forall_mem_cons.mpr ⟨tw_501, List.forall_mem_cons.mpr ⟨tw_500, List.forall_mem_cons.mpr ⟨tw_499, List.forall_mem_cons.mpr ⟨tw_498, List.forall_mem_cons.mpr ⟨tw_497, List.forall_mem_cons.mpr ⟨tw_496, List.forall_mem_cons.mpr ⟨tw_495, List.forall_mem_cons.mpr ⟨tw_494, List.forall_mem_cons.mpr ⟨tw_493, List.forall_mem_cons.mpr ⟨tw_492, List.forall_mem_cons.mpr ⟨tw_491, fun _ h => absurd h List.not_mem_nil⟩⟩⟩⟩⟩⟩⟩⟩⟩⟩⟩⟩⟩⟩⟩⟩, List.forall_mem_append.mpr ⟨tb_m_isHall, List.forall_mem_append.mpr ⟨tb_m_isHour, List.forall_mem_append.mpr ⟨tb_m_isKnown, List.forall_mem_append.mpr ⟨tb_m_knows, List.forall_mem_append.mpr ⟨tb_m_wayTo, fun _ h => absurd h List.not_mem_nil⟩⟩⟩⟩⟩⟩⟩
set_option maxRecDepth 20000 in
theorem tw_503 : (.selects RX12 yX12_way yX12_way : Cond) ∈ lw_tbl := lf_5 _ (List.mem_of_getElem? (i := 219) (by decide +kernel))
set_option maxRecDepth 20000 in
theorem tw_504 : (.instanceMethod yX12_way : Cond) ∈ lw_tbl := lf_5 _ (List.mem_of_getElem? (i := 218) (by decide +kernel))
set_option maxRecDepth 20000 in
theorem tw_505 : (.methodLink RL 67 yX12_way : Cond) ∈ lw_tbl := lf_5 _ (List.mem_of_getElem? (i := 217) (by decide +kernel))
theorem gL_m_way : GoodIn lw_tbl (wsV RL 67 RX12 yX12_way zs_m_way) := goodIn_app (goodIn_sub (List.forall_mem_cons.mpr ⟨tw_505, List.forall_mem_cons.mpr ⟨tw_504, List.forall_mem_cons.mpr ⟨tw_503, List.forall_mem_cons.mpr ⟨tw_198, fun _ h => absurd h List.not_mem_nil⟩⟩⟩⟩) (by decide +kernel)) (goodIn_sub tb_m_way gd_m_way)
set_option maxRecDepth 20000 in
theorem tw_506 : (.code yX11_broken cX11_broken 4 (some .int) : Cond) ∈ lw_tbl := lf_3 _ (List.mem_of_getElem? (i := 75) rfl)
theorem tb_h_broken : ∀ w ∈ zs_h_broken, w ∈ lw_tbl := List.forall_mem_cons.mpr ⟨tw_506, List.forall_mem_append.mpr ⟨List.forall_mem_cons.mpr ⟨tw_416, List.forall_mem_cons.mpr ⟨tw_415, List.forall_mem_cons.mpr ⟨tw_414, List.forall_mem_cons.mpr ⟨tw_191, fun _ h => absurd h List.not_mem_nil⟩⟩⟩⟩, List.forall_mem_append.mpr ⟨tb_h_isPlate, fun _ h => absurd h List.not_mem_nil⟩⟩⟩
set_option maxRecDepth 20000 in
theorem tw_507 : (.selects RX11 yX11_broken yX11_broken : Cond) ∈ lw_tbl := lf_3 _ (List.mem_of_getElem? (i := 74) (by decide +kernel))
set_option maxRecDepth 20000 in
theorem tw_508 : (.instanceMethod yX11_broken : Cond) ∈ lw_tbl := lf_3 _ (List.mem_of_getElem? (i := 73) (by decide +kernel))
set_option maxRecDepth 20000 in
theorem tw_509 : (.methodLink RL 68 yX11_broken : Cond) ∈ lw_tbl := lf_3 _ (List.mem_of_getElem? (i := 72) (by decide +kernel))
theorem gL_h_broken : GoodIn lw_tbl (wsV RL 68 RX11 yX11_broken zs_h_broken) := goodIn_app (goodIn_sub (List.forall_mem_cons.mpr ⟨tw_509, List.forall_mem_cons.mpr ⟨tw_508, List.forall_mem_cons.mpr ⟨tw_507, List.forall_mem_cons.mpr ⟨tw_191, fun _ h => absurd h List.not_mem_nil⟩⟩⟩⟩) (by decide +kernel)) (goodIn_sub tb_h_broken gd_h_broken)
set_option maxRecDepth 20000 in
theorem tw_510 : (.code yX12_broken cX12_broken 4 (some .int) : Cond) ∈ lw_tbl := lf_5 _ (List.mem_of_getElem? (i := 208) rfl)
theorem tb_m_broken : ∀ w ∈ zs_m_broken, w ∈ lw_tbl := List.forall_mem_cons.mpr ⟨tw_510, List.forall_mem_append.mpr ⟨List.forall_mem_cons.mpr ⟨tw_424, List.forall_mem_cons.mpr ⟨tw_423, List.forall_mem_cons.mpr ⟨tw_422, List.forall_mem_cons.mpr ⟨tw_198, fun _ h => absurd h List.not_mem_nil⟩⟩⟩⟩, List.forall_mem_append.mpr ⟨tb_m_isPlate, fun _ h => absurd h List.not_mem_nil⟩⟩⟩
set_option maxRecDepth 20000 in
theorem tw_511 : (.selects RX12 yX12_broken yX12_broken : Cond) ∈ lw_tbl := lf_5 _ (List.mem_of_getElem? (i := 207) (by decide +kernel))
set_option maxRecDepth 20000 in
theorem tw_512 : (.instanceMethod yX12_broken : Cond) ∈ lw_tbl := lf_5 _ (List.mem_of_getElem? (i := 206) (by decide +kernel))
set_option maxRecDepth 20000 in
theorem tw_513 : (.methodLink RL 72 yX12_broken : Cond) ∈ lw_tbl := lf_5 _ (List.mem_of_getElem? (i := 205) (by decide +kernel))
theorem gL_m_broken : GoodIn lw_tbl (wsV RL 72 RX12 yX12_broken zs_m_broken) := goodIn_app (goodIn_sub (List.forall_mem_cons.mpr ⟨tw_513, List.forall_mem_cons.mpr ⟨tw_512, List.forall_mem_cons.mpr ⟨tw_511, List.forall_mem_cons.mpr ⟨tw_198, fun _ h => absurd h List.not_mem_nil⟩⟩⟩⟩) (by decide +kernel)) (goodIn_sub tb_m_broken gd_m_broken)
set_option maxRecDepth 20000 in
theorem tw_514 : (.code yX7_all cX7_all 1 (some .int) : Cond) ∈ lw_tbl := lf_3 _ (List.mem_of_getElem? (i := 88) rfl)
theorem tb_c_all : ∀ w ∈ zs_c_all, w ∈ lw_tbl := List.forall_mem_cons.mpr ⟨tw_514, List.forall_mem_append.mpr ⟨List.forall_mem_cons.mpr ⟨tw_263, fun _ h => absurd h List.not_mem_nil⟩, List.forall_mem_append.mpr ⟨in_wsX70, fun _ h => absurd h List.not_mem_nil⟩⟩⟩
set_option maxRecDepth 20000 in
theorem tw_515 : (.methodLink RX1 53 yX4_spread : Cond) ∈ lw_tbl := lf_3 _ (List.mem_of_getElem? (i := 94) (by decide +kernel))
set_option maxRecDepth 20000 in
theorem tw_516 : (.methodLink RX1 49 yX4_learn : Cond) ∈ lw_tbl := lf_3 _ (List.mem_of_getElem? (i := 93) (by decide +kernel))
set_option maxRecDepth 20000 in
theorem tw_517 : (.fieldLink RX1 57 "LanternHouse$Shows" "size" "I" : Cond) ∈ lw_tbl := lf_1 _ (List.mem_of_getElem? (i := 41) (by decide +kernel))
set_option maxRecDepth 20000 in
theorem tw_518 : (.fieldLink RX1 33 "LanternHouse$Keeper" "shows" "LLanternHouse$Shows;" : Cond) ∈ lw_tbl := lf_1 _ (List.mem_of_getElem? (i := 73) (by decide +kernel))
set_option maxRecDepth 20000 in
theorem tw_519 : (.fieldLink RX1 15 "LanternHouse$Keeper" "arrivals" "[[I" : Cond) ∈ lw_tbl := lf_1 _ (List.mem_of_getElem? (i := 77) (by decide +kernel))
set_option maxRecDepth 20000 in
theorem tw_520 : (.fieldLink RX1 41 "LanternHouse$Keeper" "facts" "LLanternHouse$Facts;" : Cond) ∈ lw_tbl := lf_1 _ (List.mem_of_getElem? (i := 75) (by decide +kernel))
set_option maxRecDepth 20000 in
theorem tw_521 : (.fieldLink RX1 45 "LanternHouse$Keeper" "rails" "LLanternHouse$Rails;" : Cond) ∈ lw_tbl := lf_1 _ (List.mem_of_getElem? (i := 76) (by decide +kernel))
set_option maxRecDepth 20000 in
theorem tw_522 : (.code yX1_prepare cX1_prepare 3 none : Cond) ∈ lw_tbl := lf_3 _ (List.mem_of_getElem? (i := 92) rfl)
theorem tb_c_prepare : ∀ w ∈ zs_c_prepare, w ∈ lw_tbl := List.forall_mem_cons.mpr ⟨tw_522, List.forall_mem_append.mpr ⟨List.forall_mem_cons.mpr ⟨tw_521, List.forall_mem_cons.mpr ⟨tw_520, List.forall_mem_cons.mpr ⟨tw_519, List.forall_mem_cons.mpr ⟨tw_518, List.forall_mem_cons.mpr ⟨tw_517, List.forall_mem_cons.mpr ⟨tw_516, List.forall_mem_cons.mpr ⟨tw_469, List.forall_mem_cons.mpr ⟨tw_468, List.forall_mem_cons.mpr ⟨tw_336, List.forall_mem_cons.mpr ⟨tw_515, List.forall_mem_cons.mpr ⟨tw_461, List.forall_mem_cons.mpr ⟨tw_460, fun _ h => absurd h List.not_mem_nil⟩⟩⟩⟩⟩⟩⟩⟩⟩⟩⟩⟩, List.forall_mem_append.mpr ⟨tb_c_learn, List.forall_mem_append.mpr ⟨tb_c_spread, List.forall_mem_append.mpr ⟨in_wsX10, List.forall_mem_append.mpr ⟨in_wsX70, fun _ h => absurd h List.not_mem_nil⟩⟩⟩⟩⟩⟩
set_option maxRecDepth 20000 in
theorem tw_523 : (.code yX7_worthOf cX7_worthOf 4 (some .int) : Cond) ∈ lw_tbl := lf_3 _ (List.mem_of_getElem? (i := 111) rfl)
theorem tb_c_worthOf : ∀ w ∈ zs_c_worthOf, w ∈ lw_tbl := List.forall_mem_cons.mpr ⟨tw_523, List.forall_mem_append.mpr ⟨List.forall_mem_cons.mpr ⟨tw_263, fun _ h => absurd h List.not_mem_nil⟩, List.forall_mem_append.mpr ⟨in_wsX70, fun _ h => absurd h List.not_mem_nil⟩⟩⟩
set_option maxRecDepth 20000 in
theorem tw_524 : (.fieldLink RX3 39 "LanternHouse$Plan" "instead" "I" : Cond) ∈ lw_tbl := lf_1 _ (List.mem_of_getElem? (i := 173) (by decide +kernel))
set_option maxRecDepth 20000 in
theorem tw_525 : (.fieldLink RX3 36 "LanternHouse$Plan" "missed" "I" : Cond) ∈ lw_tbl := lf_1 _ (List.mem_of_getElem? (i := 171) (by decide +kernel))
set_option maxRecDepth 20000 in
theorem tw_526 : (.fieldLink RX3 33 "LanternHouse$Plan" "changes" "I" : Cond) ∈ lw_tbl := lf_1 _ (List.mem_of_getElem? (i := 169) (by decide +kernel))
set_option maxRecDepth 20000 in
theorem tw_527 : (.fieldLink RX3 30 "LanternHouse$Plan" "worth" "I" : Cond) ∈ lw_tbl := lf_1 _ (List.mem_of_getElem? (i := 167) (by decide +kernel))
set_option maxRecDepth 20000 in
theorem tw_528 : (.fieldLink RX3 26 "LanternHouse$Plan" "set" "I" : Cond) ∈ lw_tbl := lf_1 _ (List.mem_of_getElem? (i := 165) (by decide +kernel))
set_option maxRecDepth 20000 in
theorem tw_529 : (.code yX3_begin cX3_begin 3 none : Cond) ∈ lw_tbl := lf_3 _ (List.mem_of_getElem? (i := 115) rfl)
theorem tb_c_pbegin : ∀ w ∈ zs_c_pbegin, w ∈ lw_tbl := List.forall_mem_cons.mpr ⟨tw_529, List.forall_mem_append.mpr ⟨List.forall_mem_cons.mpr ⟨tw_528, List.forall_mem_cons.mpr ⟨tw_527, List.forall_mem_cons.mpr ⟨tw_526, List.forall_mem_cons.mpr ⟨tw_525, List.forall_mem_cons.mpr ⟨tw_524, fun _ h => absurd h List.not_mem_nil⟩⟩⟩⟩⟩, List.forall_mem_append.mpr ⟨in_wsX30, fun _ h => absurd h List.not_mem_nil⟩⟩⟩
set_option maxRecDepth 20000 in
theorem tw_530 : (.methodLink RX1 85 yJ7_fill_53178 : Cond) ∈ lw_tbl := lf_3 _ (List.mem_of_getElem? (i := 116) (by decide +kernel))
set_option maxRecDepth 20000 in
theorem tw_531 : (.initialized RX3 : Cond) ∈ lw_tbl := lf_0 _ (List.mem_of_getElem? (i := 12) (by decide +kernel))
set_option maxRecDepth 20000 in
theorem tw_532 : (.selects RX3 yX3_begin yX3_begin : Cond) ∈ lw_tbl := lf_3 _ (List.mem_of_getElem? (i := 114) (by decide +kernel))
set_option maxRecDepth 20000 in
theorem tw_533 : (.instanceMethod yX3_begin : Cond) ∈ lw_tbl := lf_3 _ (List.mem_of_getElem? (i := 113) (by decide +kernel))
set_option maxRecDepth 20000 in
theorem tw_534 : (.methodLink RX1 79 yX3_begin : Cond) ∈ lw_tbl := lf_3 _ (List.mem_of_getElem? (i := 112) (by decide +kernel))
set_option maxRecDepth 20000 in
theorem tw_535 : (.selects RX7 yX7_worthOf yX7_worthOf : Cond) ∈ lw_tbl := lf_3 _ (List.mem_of_getElem? (i := 110) (by decide +kernel))
set_option maxRecDepth 20000 in
theorem tw_536 : (.instanceMethod yX7_worthOf : Cond) ∈ lw_tbl := lf_3 _ (List.mem_of_getElem? (i := 109) (by decide +kernel))
set_option maxRecDepth 20000 in
theorem tw_537 : (.methodLink RX1 76 yX7_worthOf : Cond) ∈ lw_tbl := lf_3 _ (List.mem_of_getElem? (i := 108) (by decide +kernel))
set_option maxRecDepth 20000 in
theorem tw_538 : (.fieldLink RX1 26 "LanternHouse$Keeper" "freeAt" "[I" : Cond) ∈ lw_tbl := lf_1 _ (List.mem_of_getElem? (i := 79) (by decide +kernel))
set_option maxRecDepth 20000 in
theorem tw_539 : (.code yX1_keep cX1_keep 5 (some .boolean) : Cond) ∈ lw_tbl := lf_3 _ (List.mem_of_getElem? (i := 107) rfl)
theorem tb_c_keep : ∀ w ∈ zs_c_keep, w ∈ lw_tbl := List.forall_mem_cons.mpr ⟨tw_539, List.forall_mem_append.mpr ⟨List.forall_mem_cons.mpr ⟨tw_518, List.forall_mem_cons.mpr ⟨tw_538, List.forall_mem_cons.mpr ⟨tw_517, List.forall_mem_cons.mpr ⟨tw_537, List.forall_mem_cons.mpr ⟨tw_536, List.forall_mem_cons.mpr ⟨tw_535, List.forall_mem_cons.mpr ⟨tw_266, List.forall_mem_cons.mpr ⟨tw_534, List.forall_mem_cons.mpr ⟨tw_533, List.forall_mem_cons.mpr ⟨tw_532, List.forall_mem_cons.mpr ⟨tw_531, List.forall_mem_cons.mpr ⟨tw_530, List.forall_mem_cons.mpr ⟨tw_457, List.forall_mem_cons.mpr ⟨tw_451, fun _ h => absurd h List.not_mem_nil⟩⟩⟩⟩⟩⟩⟩⟩⟩⟩⟩⟩⟩⟩, List.forall_mem_append.mpr ⟨tb_c_worthOf, List.forall_mem_append.mpr ⟨tb_c_pbegin, List.forall_mem_append.mpr ⟨tb_c_fillI, List.forall_mem_append.mpr ⟨in_wsX10, List.forall_mem_append.mpr ⟨in_wsX70, fun _ h => absurd h List.not_mem_nil⟩⟩⟩⟩⟩⟩⟩
set_option maxRecDepth 20000 in
theorem tw_540 : (.selects RX1 yX1_keep yX1_keep : Cond) ∈ lw_tbl := lf_3 _ (List.mem_of_getElem? (i := 106) (by decide +kernel))
set_option maxRecDepth 20000 in
theorem tw_541 : (.instanceMethod yX1_keep : Cond) ∈ lw_tbl := lf_3 _ (List.mem_of_getElem? (i := 105) (by decide +kernel))
set_option maxRecDepth 20000 in
theorem tw_542 : (.methodLink RX11 180 yX1_keep : Cond) ∈ lw_tbl := lf_3 _ (List.mem_of_getElem? (i := 104) (by decide +kernel))
set_option maxRecDepth 20000 in
theorem tw_543 : (.initialized RX1 : Cond) ∈ lw_tbl := lf_0 _ (List.mem_of_getElem? (i := 10) (by decide +kernel))
set_option maxRecDepth 20000 in
theorem tw_544 : (.selects RX1 yX1_prepare yX1_prepare : Cond) ∈ lw_tbl := lf_3 _ (List.mem_of_getElem? (i := 91) (by decide +kernel))
set_option maxRecDepth 20000 in
theorem tw_545 : (.instanceMethod yX1_prepare : Cond) ∈ lw_tbl := lf_3 _ (List.mem_of_getElem? (i := 90) (by decide +kernel))
set_option maxRecDepth 20000 in
theorem tw_546 : (.methodLink RX11 177 yX1_prepare : Cond) ∈ lw_tbl := lf_3 _ (List.mem_of_getElem? (i := 89) (by decide +kernel))
set_option maxRecDepth 20000 in
theorem tw_547 : (.selects RX7 yX7_all yX7_all : Cond) ∈ lw_tbl := lf_3 _ (List.mem_of_getElem? (i := 87) (by decide +kernel))
set_option maxRecDepth 20000 in
theorem tw_548 : (.instanceMethod yX7_all : Cond) ∈ lw_tbl := lf_3 _ (List.mem_of_getElem? (i := 86) (by decide +kernel))
set_option maxRecDepth 20000 in
theorem tw_549 : (.methodLink RX11 174 yX7_all : Cond) ∈ lw_tbl := lf_3 _ (List.mem_of_getElem? (i := 85) (by decide +kernel))
set_option maxRecDepth 20000 in
theorem tw_550 : (.fieldLink RX11 184 "LanternHouse$Plan" "worth" "I" : Cond) ∈ lw_tbl := lf_1 _ (List.mem_of_getElem? (i := 168) (by decide +kernel))
set_option maxRecDepth 20000 in
theorem tw_551 : (.fieldLink RX11 92 "LanternHouse" "trial" "LLanternHouse$Plan;" : Cond) ∈ lw_tbl := lf_1 _ (List.mem_of_getElem? (i := 203) (by decide +kernel))
set_option maxRecDepth 20000 in
theorem tw_552 : (.code yX11_can cX11_can 3 (some .int) : Cond) ∈ lw_tbl := lf_3 _ (List.mem_of_getElem? (i := 84) rfl)
theorem tb_h_can : ∀ w ∈ zs_h_can, w ∈ lw_tbl := List.forall_mem_cons.mpr ⟨tw_552, List.forall_mem_append.mpr ⟨List.forall_mem_cons.mpr ⟨tw_278, List.forall_mem_cons.mpr ⟨tw_478, List.forall_mem_cons.mpr ⟨tw_392, List.forall_mem_cons.mpr ⟨tw_551, List.forall_mem_cons.mpr ⟨tw_550, List.forall_mem_cons.mpr ⟨tw_549, List.forall_mem_cons.mpr ⟨tw_548, List.forall_mem_cons.mpr ⟨tw_547, List.forall_mem_cons.mpr ⟨tw_266, List.forall_mem_cons.mpr ⟨tw_474, List.forall_mem_cons.mpr ⟨tw_473, List.forall_mem_cons.mpr ⟨tw_472, List.forall_mem_cons.mpr ⟨tw_471, List.forall_mem_cons.mpr ⟨tw_546, List.forall_mem_cons.mpr ⟨tw_545, List.forall_mem_cons.mpr ⟨tw_544, List.forall_mem_cons.mpr ⟨tw_543, List.forall_mem_cons.mpr ⟨tw_542, List.forall_mem_cons.mpr ⟨tw_541, List.forall_mem_cons.mpr ⟨tw_540, fun _ h => absurd h List.not_mem_nil⟩⟩⟩⟩⟩⟩⟩⟩⟩⟩⟩⟩⟩⟩⟩⟩⟩⟩⟩⟩, List.forall_mem_append.mpr ⟨tb_c_all, List.forall_mem_append.mpr ⟨tb_c_isKnown, List.forall_mem_append.mpr ⟨tb_c_prepare, List.forall_mem_append.mpr ⟨tb_c_keep, List.forall_mem_append.mpr ⟨in_wsX110, List.forall_mem_append.mpr ⟨in_wsX30, fun _ h => absurd h List.not_mem_nil⟩⟩⟩⟩⟩⟩⟩⟩
set_option maxRecDepth 20000 in
theorem tw_553 : (.selects RX11 yX11_can yX11_can : Cond) ∈ lw_tbl := lf_3 _ (List.mem_of_getElem? (i := 83) (by decide +kernel))
set_option maxRecDepth 20000 in
theorem tw_554 : (.instanceMethod yX11_can : Cond) ∈ lw_tbl := lf_3 _ (List.mem_of_getElem? (i := 82) (by decide +kernel))
set_option maxRecDepth 20000 in
theorem tw_555 : (.methodLink RL 73 yX11_can : Cond) ∈ lw_tbl := lf_3 _ (List.mem_of_getElem? (i := 81) (by decide +kernel))
theorem gL_h_can : GoodIn lw_tbl (wsV RL 73 RX11 yX11_can zs_h_can) := goodIn_app (goodIn_sub (List.forall_mem_cons.mpr ⟨tw_555, List.forall_mem_cons.mpr ⟨tw_554, List.forall_mem_cons.mpr ⟨tw_553, List.forall_mem_cons.mpr ⟨tw_191, fun _ h => absurd h List.not_mem_nil⟩⟩⟩⟩) (by decide +kernel)) (goodIn_sub tb_h_can gd_h_can)
set_option maxRecDepth 20000 in
theorem tw_556 : (.fieldLink RX12 364 "LanternHouseModel" "instead" "I" : Cond) ∈ lw_tbl := lf_4 _ (List.mem_of_getElem? (i := 124) (by decide +kernel))
set_option maxRecDepth 20000 in
theorem tw_557 : (.fieldLink RX12 361 "LanternHouseModel" "missed" "I" : Cond) ∈ lw_tbl := lf_4 _ (List.mem_of_getElem? (i := 123) (by decide +kernel))
set_option maxRecDepth 20000 in
theorem tw_558 : (.code yX12_keeps cX12_keeps 5 (some .boolean) : Cond) ∈ lw_tbl := lf_6 _ (List.mem_of_getElem? (i := 5) rfl)
theorem tb_m_keeps : ∀ w ∈ zs_m_keeps, w ∈ lw_tbl := List.forall_mem_cons.mpr ⟨tw_558, List.forall_mem_append.mpr ⟨List.forall_mem_cons.mpr ⟨tw_557, List.forall_mem_cons.mpr ⟨tw_556, List.forall_mem_cons.mpr ⟨tw_386, List.forall_mem_cons.mpr ⟨tw_312, fun _ h => absurd h List.not_mem_nil⟩⟩⟩⟩, List.forall_mem_append.mpr ⟨in_wsX120, fun _ h => absurd h List.not_mem_nil⟩⟩⟩
set_option maxRecDepth 20000 in
theorem tw_559 : (.code yX12_worthOf cX12_worthOf 4 (some .int) : Cond) ∈ lw_tbl := lf_6 _ (List.mem_of_getElem? (i := 17) rfl)
theorem tb_m_worthOf : ∀ w ∈ zs_m_worthOf, w ∈ lw_tbl := List.forall_mem_cons.mpr ⟨tw_559, List.forall_mem_append.mpr ⟨List.forall_mem_cons.mpr ⟨tw_312, fun _ h => absurd h List.not_mem_nil⟩, List.forall_mem_append.mpr ⟨in_wsX120, fun _ h => absurd h List.not_mem_nil⟩⟩⟩
set_option maxRecDepth 20000 in
theorem tw_560 : (.selects RX12 yX12_worthOf yX12_worthOf : Cond) ∈ lw_tbl := List.mem_append_left _ (List.mem_of_getElem? (i := 57) (by decide +kernel))
set_option maxRecDepth 20000 in
theorem tw_561 : (.instanceMethod yX12_worthOf : Cond) ∈ lw_tbl := lf_6 _ (List.mem_of_getElem? (i := 16) (by decide +kernel))
set_option maxRecDepth 20000 in
theorem tw_562 : (.methodLink RX12 378 yX12_worthOf : Cond) ∈ lw_tbl := lf_6 _ (List.mem_of_getElem? (i := 14) (by decide +kernel))
set_option maxRecDepth 20000 in
theorem tw_563 : (.selects RX12 yX12_keeps yX12_keeps : Cond) ∈ lw_tbl := List.mem_append_left _ (List.mem_of_getElem? (i := 54) (by decide +kernel))
set_option maxRecDepth 20000 in
theorem tw_564 : (.instanceMethod yX12_keeps : Cond) ∈ lw_tbl := lf_6 _ (List.mem_of_getElem? (i := 4) (by decide +kernel))
set_option maxRecDepth 20000 in
theorem tw_565 : (.methodLink RX12 375 yX12_keeps : Cond) ∈ lw_tbl := lf_6 _ (List.mem_of_getElem? (i := 2) (by decide +kernel))
set_option maxRecDepth 20000 in
theorem tw_566 : (.code yX12_can cX12_can 3 (some .int) : Cond) ∈ lw_tbl := lf_6 _ (List.mem_of_getElem? (i := 1) rfl)
theorem tb_m_can : ∀ w ∈ zs_m_can, w ∈ lw_tbl := List.forall_mem_cons.mpr ⟨tw_566, List.forall_mem_append.mpr ⟨List.forall_mem_cons.mpr ⟨tw_312, List.forall_mem_cons.mpr ⟨tw_499, List.forall_mem_cons.mpr ⟨tw_498, List.forall_mem_cons.mpr ⟨tw_497, List.forall_mem_cons.mpr ⟨tw_198, List.forall_mem_cons.mpr ⟨tw_496, List.forall_mem_cons.mpr ⟨tw_495, List.forall_mem_cons.mpr ⟨tw_494, List.forall_mem_cons.mpr ⟨tw_565, List.forall_mem_cons.mpr ⟨tw_564, List.forall_mem_cons.mpr ⟨tw_563, List.forall_mem_cons.mpr ⟨tw_562, List.forall_mem_cons.mpr ⟨tw_561, List.forall_mem_cons.mpr ⟨tw_560, fun _ h => absurd h List.not_mem_nil⟩⟩⟩⟩⟩⟩⟩⟩⟩⟩⟩⟩⟩⟩, List.forall_mem_append.mpr ⟨tb_m_isKnown, List.forall_mem_append.mpr ⟨tb_m_knows, List.forall_mem_append.mpr ⟨tb_m_keeps, List.forall_mem_append.mpr ⟨tb_m_worthOf, List.forall_mem_append.mpr ⟨in_wsX120, fun _ h => absurd h List.not_mem_nil⟩⟩⟩⟩⟩⟩⟩
set_option maxRecDepth 20000 in
theorem tw_567 : (.selects RX12 yX12_can yX12_can : Cond) ∈ lw_tbl := lf_6 _ (List.mem_of_getElem? (i := 0) (by decide +kernel))
set_option maxRecDepth 20000 in
theorem tw_568 : (.instanceMethod yX12_can : Cond) ∈ lw_tbl := lf_5 _ (List.mem_of_getElem? (i := 239) (by decide +kernel))
set_option maxRecDepth 20000 in
theorem tw_569 : (.methodLink RL 76 yX12_can : Cond) ∈ lw_tbl := lf_5 _ (List.mem_of_getElem? (i := 238) (by decide +kernel))
theorem gL_m_can : GoodIn lw_tbl (wsV RL 76 RX12 yX12_can zs_m_can) := goodIn_app (goodIn_sub (List.forall_mem_cons.mpr ⟨tw_569, List.forall_mem_cons.mpr ⟨tw_568, List.forall_mem_cons.mpr ⟨tw_567, List.forall_mem_cons.mpr ⟨tw_198, fun _ h => absurd h List.not_mem_nil⟩⟩⟩⟩) (by decide +kernel)) (goodIn_sub tb_m_can gd_m_can)
set_option maxRecDepth 20000 in
theorem tw_570 : (.code yX11_changes cX11_changes 2 (some .int) : Cond) ∈ lw_tbl := lf_3 _ (List.mem_of_getElem? (i := 171) rfl)
theorem tb_h_changes : ∀ w ∈ zs_h_changes, w ∈ lw_tbl := List.forall_mem_cons.mpr ⟨tw_570, List.forall_mem_append.mpr ⟨fun _ h => absurd h List.not_mem_nil, fun _ h => absurd h List.not_mem_nil⟩⟩
set_option maxRecDepth 20000 in
theorem tw_571 : (.static yX11_changes : Cond) ∈ lw_tbl := lf_3 _ (List.mem_of_getElem? (i := 170) (by decide +kernel))
set_option maxRecDepth 20000 in
theorem tw_572 : (.methodLink RX11 303 yX11_changes : Cond) ∈ lw_tbl := lf_3 _ (List.mem_of_getElem? (i := 169) (by decide +kernel))
set_option maxRecDepth 20000 in
theorem tw_573 : (.fieldLink RX11 194 "LanternHouse$Plan" "changes" "I" : Cond) ∈ lw_tbl := lf_1 _ (List.mem_of_getElem? (i := 170) (by decide +kernel))
set_option maxRecDepth 20000 in
theorem tw_574 : (.fieldLink RX11 88 "LanternHouse" "made" "LLanternHouse$Plan;" : Cond) ∈ lw_tbl := lf_1 _ (List.mem_of_getElem? (i := 202) (by decide +kernel))
set_option maxRecDepth 20000 in
theorem tw_575 : (.code yX11_settle cX11_settle 5 none : Cond) ∈ lw_tbl := lf_3 _ (List.mem_of_getElem? (i := 168) rfl)
theorem tb_h_settle : ∀ w ∈ zs_h_settle, w ∈ lw_tbl := List.forall_mem_cons.mpr ⟨tw_575, List.forall_mem_append.mpr ⟨List.forall_mem_cons.mpr ⟨tw_392, List.forall_mem_cons.mpr ⟨tw_574, List.forall_mem_cons.mpr ⟨tw_573, List.forall_mem_cons.mpr ⟨tw_278, List.forall_mem_cons.mpr ⟨tw_546, List.forall_mem_cons.mpr ⟨tw_545, List.forall_mem_cons.mpr ⟨tw_544, List.forall_mem_cons.mpr ⟨tw_543, List.forall_mem_cons.mpr ⟨tw_542, List.forall_mem_cons.mpr ⟨tw_541, List.forall_mem_cons.mpr ⟨tw_540, List.forall_mem_cons.mpr ⟨tw_572, List.forall_mem_cons.mpr ⟨tw_571, List.forall_mem_cons.mpr ⟨tw_191, List.forall_mem_cons.mpr ⟨tw_549, List.forall_mem_cons.mpr ⟨tw_548, List.forall_mem_cons.mpr ⟨tw_547, List.forall_mem_cons.mpr ⟨tw_266, fun _ h => absurd h List.not_mem_nil⟩⟩⟩⟩⟩⟩⟩⟩⟩⟩⟩⟩⟩⟩⟩⟩⟩⟩, List.forall_mem_append.mpr ⟨tb_c_prepare, List.forall_mem_append.mpr ⟨tb_c_keep, List.forall_mem_append.mpr ⟨tb_h_changes, List.forall_mem_append.mpr ⟨tb_c_all, List.forall_mem_append.mpr ⟨in_wsX110, List.forall_mem_append.mpr ⟨in_wsX30, fun _ h => absurd h List.not_mem_nil⟩⟩⟩⟩⟩⟩⟩⟩
set_option maxRecDepth 20000 in
theorem tw_576 : (.selects RX11 yX11_settle yX11_settle : Cond) ∈ lw_tbl := List.mem_append_left _ (List.mem_of_getElem? (i := 22) (by decide +kernel))
set_option maxRecDepth 20000 in
theorem tw_577 : (.instanceMethod yX11_settle : Cond) ∈ lw_tbl := lf_3 _ (List.mem_of_getElem? (i := 167) (by decide +kernel))
set_option maxRecDepth 20000 in
theorem tw_578 : (.methodLink RX11 187 yX11_settle : Cond) ∈ lw_tbl := lf_3 _ (List.mem_of_getElem? (i := 165) (by decide +kernel))
set_option maxRecDepth 20000 in
theorem tw_579 : (.code yX11_make cX11_make 2 (some .int) : Cond) ∈ lw_tbl := lf_3 _ (List.mem_of_getElem? (i := 164) rfl)
theorem tb_h_make : ∀ w ∈ zs_h_make, w ∈ lw_tbl := List.forall_mem_cons.mpr ⟨tw_579, List.forall_mem_append.mpr ⟨List.forall_mem_cons.mpr ⟨tw_478, List.forall_mem_cons.mpr ⟨tw_276, List.forall_mem_cons.mpr ⟨tw_574, List.forall_mem_cons.mpr ⟨tw_550, List.forall_mem_cons.mpr ⟨tw_474, List.forall_mem_cons.mpr ⟨tw_473, List.forall_mem_cons.mpr ⟨tw_472, List.forall_mem_cons.mpr ⟨tw_471, List.forall_mem_cons.mpr ⟨tw_578, List.forall_mem_cons.mpr ⟨tw_577, List.forall_mem_cons.mpr ⟨tw_576, List.forall_mem_cons.mpr ⟨tw_191, fun _ h => absurd h List.not_mem_nil⟩⟩⟩⟩⟩⟩⟩⟩⟩⟩⟩⟩, List.forall_mem_append.mpr ⟨tb_c_isKnown, List.forall_mem_append.mpr ⟨tb_h_settle, List.forall_mem_append.mpr ⟨in_wsX110, List.forall_mem_append.mpr ⟨in_wsX30, fun _ h => absurd h List.not_mem_nil⟩⟩⟩⟩⟩⟩
set_option maxRecDepth 20000 in
theorem tw_580 : (.selects RX11 yX11_make yX11_make : Cond) ∈ lw_tbl := lf_3 _ (List.mem_of_getElem? (i := 163) (by decide +kernel))
set_option maxRecDepth 20000 in
theorem tw_581 : (.instanceMethod yX11_make : Cond) ∈ lw_tbl := lf_3 _ (List.mem_of_getElem? (i := 162) (by decide +kernel))
set_option maxRecDepth 20000 in
theorem tw_582 : (.methodLink RL 77 yX11_make : Cond) ∈ lw_tbl := lf_3 _ (List.mem_of_getElem? (i := 161) (by decide +kernel))
theorem gL_h_make : GoodIn lw_tbl (wsV RL 77 RX11 yX11_make zs_h_make) := goodIn_app (goodIn_sub (List.forall_mem_cons.mpr ⟨tw_582, List.forall_mem_cons.mpr ⟨tw_581, List.forall_mem_cons.mpr ⟨tw_580, List.forall_mem_cons.mpr ⟨tw_191, fun _ h => absurd h List.not_mem_nil⟩⟩⟩⟩) (by decide +kernel)) (goodIn_sub tb_h_make gd_h_make)
set_option maxRecDepth 20000 in
theorem tw_583 : (.fieldLink RX12 161 "LanternHouseModel" "getsAt" "[I" : Cond) ∈ lw_tbl := lf_4 _ (List.mem_of_getElem? (i := 122) (by decide +kernel))
set_option maxRecDepth 20000 in
theorem tw_584 : (.fieldLink RX12 182 "LanternHouseModel" "madeAt" "[I" : Cond) ∈ lw_tbl := lf_4 _ (List.mem_of_getElem? (i := 135) (by decide +kernel))
set_option maxRecDepth 20000 in
theorem tw_585 : (.fieldLink RX12 158 "LanternHouseModel" "getsFrom" "[I" : Cond) ∈ lw_tbl := lf_4 _ (List.mem_of_getElem? (i := 121) (by decide +kernel))
set_option maxRecDepth 20000 in
theorem tw_586 : (.fieldLink RX12 179 "LanternHouseModel" "madeFrom" "[I" : Cond) ∈ lw_tbl := lf_4 _ (List.mem_of_getElem? (i := 134) (by decide +kernel))
set_option maxRecDepth 20000 in
theorem tw_587 : (.fieldLink RX12 155 "LanternHouseModel" "getsAs" "[I" : Cond) ∈ lw_tbl := lf_4 _ (List.mem_of_getElem? (i := 120) (by decide +kernel))
set_option maxRecDepth 20000 in
theorem tw_588 : (.fieldLink RX12 176 "LanternHouseModel" "madeAs" "[I" : Cond) ∈ lw_tbl := lf_4 _ (List.mem_of_getElem? (i := 133) (by decide +kernel))
set_option maxRecDepth 20000 in
theorem tw_589 : (.fieldLink RX12 152 "LanternHouseModel" "gets" "[I" : Cond) ∈ lw_tbl := lf_4 _ (List.mem_of_getElem? (i := 119) (by decide +kernel))
set_option maxRecDepth 20000 in
theorem tw_590 : (.fieldLink RX12 173 "LanternHouseModel" "madeGets" "[I" : Cond) ∈ lw_tbl := lf_4 _ (List.mem_of_getElem? (i := 132) (by decide +kernel))
set_option maxRecDepth 20000 in
theorem tw_591 : (.fieldLink RX12 391 "LanternHouseModel" "madeInstead" "I" : Cond) ∈ lw_tbl := lf_4 _ (List.mem_of_getElem? (i := 131) (by decide +kernel))
set_option maxRecDepth 20000 in
theorem tw_592 : (.fieldLink RX12 388 "LanternHouseModel" "madeMissed" "I" : Cond) ∈ lw_tbl := lf_4 _ (List.mem_of_getElem? (i := 130) (by decide +kernel))
set_option maxRecDepth 20000 in
theorem tw_593 : (.fieldLink RX12 385 "LanternHouseModel" "made" "I" : Cond) ∈ lw_tbl := lf_4 _ (List.mem_of_getElem? (i := 129) (by decide +kernel))
set_option maxRecDepth 20000 in
theorem tw_594 : (.code yX12_makes cX12_makes 8 none : Cond) ∈ lw_tbl := lf_6 _ (List.mem_of_getElem? (i := 25) rfl)
theorem tb_m_makes : ∀ w ∈ zs_m_makes, w ∈ lw_tbl := List.forall_mem_cons.mpr ⟨tw_594, List.forall_mem_append.mpr ⟨List.forall_mem_cons.mpr ⟨tw_312, List.forall_mem_cons.mpr ⟨tw_557, List.forall_mem_cons.mpr ⟨tw_556, List.forall_mem_cons.mpr ⟨tw_593, List.forall_mem_cons.mpr ⟨tw_311, List.forall_mem_cons.mpr ⟨tw_592, List.forall_mem_cons.mpr ⟨tw_591, List.forall_mem_cons.mpr ⟨tw_590, List.forall_mem_cons.mpr ⟨tw_589, List.forall_mem_cons.mpr ⟨tw_588, List.forall_mem_cons.mpr ⟨tw_587, List.forall_mem_cons.mpr ⟨tw_586, List.forall_mem_cons.mpr ⟨tw_585, List.forall_mem_cons.mpr ⟨tw_584, List.forall_mem_cons.mpr ⟨tw_583, List.forall_mem_cons.mpr ⟨tw_496, List.forall_mem_cons.mpr ⟨tw_495, List.forall_mem_cons.mpr ⟨tw_494, List.forall_mem_cons.mpr ⟨tw_198, List.forall_mem_cons.mpr ⟨tw_565, List.forall_mem_cons.mpr ⟨tw_564, List.forall_mem_cons.mpr ⟨tw_563, fun _ h => absurd h List.not_mem_nil⟩⟩⟩⟩⟩⟩⟩⟩⟩⟩⟩⟩⟩⟩⟩⟩⟩⟩⟩⟩⟩⟩, List.forall_mem_append.mpr ⟨tb_m_knows, List.forall_mem_append.mpr ⟨tb_m_keeps, List.forall_mem_append.mpr ⟨in_wsX120, fun _ h => absurd h List.not_mem_nil⟩⟩⟩⟩⟩
set_option maxRecDepth 20000 in
theorem tw_595 : (.selects RX12 yX12_makes yX12_makes : Cond) ∈ lw_tbl := List.mem_append_left _ (List.mem_of_getElem? (i := 58) (by decide +kernel))
set_option maxRecDepth 20000 in
theorem tw_596 : (.instanceMethod yX12_makes : Cond) ∈ lw_tbl := lf_6 _ (List.mem_of_getElem? (i := 24) (by decide +kernel))
set_option maxRecDepth 20000 in
theorem tw_597 : (.methodLink RX12 397 yX12_makes : Cond) ∈ lw_tbl := lf_6 _ (List.mem_of_getElem? (i := 22) (by decide +kernel))
set_option maxRecDepth 20000 in
theorem tw_598 : (.code yX12_make cX12_make 2 (some .int) : Cond) ∈ lw_tbl := lf_6 _ (List.mem_of_getElem? (i := 21) rfl)
theorem tb_m_make : ∀ w ∈ zs_m_make, w ∈ lw_tbl := List.forall_mem_cons.mpr ⟨tw_598, List.forall_mem_append.mpr ⟨List.forall_mem_cons.mpr ⟨tw_593, List.forall_mem_cons.mpr ⟨tw_499, List.forall_mem_cons.mpr ⟨tw_498, List.forall_mem_cons.mpr ⟨tw_497, List.forall_mem_cons.mpr ⟨tw_198, List.forall_mem_cons.mpr ⟨tw_597, List.forall_mem_cons.mpr ⟨tw_596, List.forall_mem_cons.mpr ⟨tw_595, List.forall_mem_cons.mpr ⟨tw_562, List.forall_mem_cons.mpr ⟨tw_561, List.forall_mem_cons.mpr ⟨tw_560, fun _ h => absurd h List.not_mem_nil⟩⟩⟩⟩⟩⟩⟩⟩⟩⟩⟩, List.forall_mem_append.mpr ⟨tb_m_isKnown, List.forall_mem_append.mpr ⟨tb_m_makes, List.forall_mem_append.mpr ⟨tb_m_worthOf, List.forall_mem_append.mpr ⟨in_wsX120, fun _ h => absurd h List.not_mem_nil⟩⟩⟩⟩⟩⟩
set_option maxRecDepth 20000 in
theorem tw_599 : (.selects RX12 yX12_make yX12_make : Cond) ∈ lw_tbl := lf_6 _ (List.mem_of_getElem? (i := 20) (by decide +kernel))
set_option maxRecDepth 20000 in
theorem tw_600 : (.instanceMethod yX12_make : Cond) ∈ lw_tbl := lf_6 _ (List.mem_of_getElem? (i := 19) (by decide +kernel))
set_option maxRecDepth 20000 in
theorem tw_601 : (.methodLink RL 80 yX12_make : Cond) ∈ lw_tbl := lf_6 _ (List.mem_of_getElem? (i := 18) (by decide +kernel))
theorem gL_m_make : GoodIn lw_tbl (wsV RL 80 RX12 yX12_make zs_m_make) := goodIn_app (goodIn_sub (List.forall_mem_cons.mpr ⟨tw_601, List.forall_mem_cons.mpr ⟨tw_600, List.forall_mem_cons.mpr ⟨tw_599, List.forall_mem_cons.mpr ⟨tw_198, fun _ h => absurd h List.not_mem_nil⟩⟩⟩⟩) (by decide +kernel)) (goodIn_sub tb_m_make gd_m_make)
set_option maxRecDepth 20000 in
theorem tw_602 : (.code yX11_mend cX11_mend 2 (some .int) : Cond) ∈ lw_tbl := lf_3 _ (List.mem_of_getElem? (i := 181) rfl)
theorem tb_h_mend : ∀ w ∈ zs_h_mend, w ∈ lw_tbl := List.forall_mem_cons.mpr ⟨tw_602, List.forall_mem_append.mpr ⟨List.forall_mem_cons.mpr ⟨tw_276, fun _ h => absurd h List.not_mem_nil⟩, List.forall_mem_append.mpr ⟨in_wsX110, fun _ h => absurd h List.not_mem_nil⟩⟩⟩
set_option maxRecDepth 20000 in
theorem tw_603 : (.selects RX11 yX11_mend yX11_mend : Cond) ∈ lw_tbl := lf_3 _ (List.mem_of_getElem? (i := 180) (by decide +kernel))
set_option maxRecDepth 20000 in
theorem tw_604 : (.instanceMethod yX11_mend : Cond) ∈ lw_tbl := lf_3 _ (List.mem_of_getElem? (i := 179) (by decide +kernel))
set_option maxRecDepth 20000 in
theorem tw_605 : (.methodLink RL 81 yX11_mend : Cond) ∈ lw_tbl := lf_3 _ (List.mem_of_getElem? (i := 178) (by decide +kernel))
theorem gL_h_mend : GoodIn lw_tbl (wsV RL 81 RX11 yX11_mend zs_h_mend) := goodIn_app (goodIn_sub (List.forall_mem_cons.mpr ⟨tw_605, List.forall_mem_cons.mpr ⟨tw_604, List.forall_mem_cons.mpr ⟨tw_603, List.forall_mem_cons.mpr ⟨tw_191, fun _ h => absurd h List.not_mem_nil⟩⟩⟩⟩) (by decide +kernel)) (goodIn_sub tb_h_mend gd_h_mend)
set_option maxRecDepth 20000 in
theorem tw_606 : (.code yX12_mend cX12_mend 3 (some .int) : Cond) ∈ lw_tbl := lf_6 _ (List.mem_of_getElem? (i := 36) rfl)
theorem tb_m_mend : ∀ w ∈ zs_m_mend, w ∈ lw_tbl := List.forall_mem_cons.mpr ⟨tw_606, List.forall_mem_append.mpr ⟨List.forall_mem_cons.mpr ⟨tw_311, fun _ h => absurd h List.not_mem_nil⟩, List.forall_mem_append.mpr ⟨in_wsX120, fun _ h => absurd h List.not_mem_nil⟩⟩⟩
set_option maxRecDepth 20000 in
theorem tw_607 : (.selects RX12 yX12_mend yX12_mend : Cond) ∈ lw_tbl := lf_6 _ (List.mem_of_getElem? (i := 35) (by decide +kernel))
set_option maxRecDepth 20000 in
theorem tw_608 : (.instanceMethod yX12_mend : Cond) ∈ lw_tbl := lf_6 _ (List.mem_of_getElem? (i := 34) (by decide +kernel))
set_option maxRecDepth 20000 in
theorem tw_609 : (.methodLink RL 84 yX12_mend : Cond) ∈ lw_tbl := lf_6 _ (List.mem_of_getElem? (i := 33) (by decide +kernel))
theorem gL_m_mend : GoodIn lw_tbl (wsV RL 84 RX12 yX12_mend zs_m_mend) := goodIn_app (goodIn_sub (List.forall_mem_cons.mpr ⟨tw_609, List.forall_mem_cons.mpr ⟨tw_608, List.forall_mem_cons.mpr ⟨tw_607, List.forall_mem_cons.mpr ⟨tw_198, fun _ h => absurd h List.not_mem_nil⟩⟩⟩⟩) (by decide +kernel)) (goodIn_sub tb_m_mend gd_m_mend)
set_option maxRecDepth 20000 in
theorem tw_610 : (.code yX7_isShow cX7_isShow 2 (some .boolean) : Cond) ∈ lw_tbl := lf_3 _ (List.mem_of_getElem? (i := 189) rfl)
theorem tb_c_isShow : ∀ w ∈ zs_c_isShow, w ∈ lw_tbl := List.forall_mem_cons.mpr ⟨tw_610, List.forall_mem_append.mpr ⟨List.forall_mem_cons.mpr ⟨tw_263, fun _ h => absurd h List.not_mem_nil⟩, List.forall_mem_append.mpr ⟨in_wsX70, fun _ h => absurd h List.not_mem_nil⟩⟩⟩
set_option maxRecDepth 20000 in
theorem tw_611 : (.selects RX7 yX7_isShow yX7_isShow : Cond) ∈ lw_tbl := lf_3 _ (List.mem_of_getElem? (i := 188) (by decide +kernel))
set_option maxRecDepth 20000 in
theorem tw_612 : (.instanceMethod yX7_isShow : Cond) ∈ lw_tbl := lf_3 _ (List.mem_of_getElem? (i := 187) (by decide +kernel))
set_option maxRecDepth 20000 in
theorem tw_613 : (.methodLink RX11 197 yX7_isShow : Cond) ∈ lw_tbl := lf_3 _ (List.mem_of_getElem? (i := 186) (by decide +kernel))
set_option maxRecDepth 20000 in
theorem tw_614 : (.code yX11_told cX11_told 3 (some .int) : Cond) ∈ lw_tbl := lf_3 _ (List.mem_of_getElem? (i := 185) rfl)
theorem tb_h_told : ∀ w ∈ zs_h_told, w ∈ lw_tbl := List.forall_mem_cons.mpr ⟨tw_614, List.forall_mem_append.mpr ⟨List.forall_mem_cons.mpr ⟨tw_278, List.forall_mem_cons.mpr ⟨tw_613, List.forall_mem_cons.mpr ⟨tw_612, List.forall_mem_cons.mpr ⟨tw_611, List.forall_mem_cons.mpr ⟨tw_266, fun _ h => absurd h List.not_mem_nil⟩⟩⟩⟩⟩, List.forall_mem_append.mpr ⟨tb_c_isShow, List.forall_mem_append.mpr ⟨in_wsX110, fun _ h => absurd h List.not_mem_nil⟩⟩⟩⟩
set_option maxRecDepth 20000 in
theorem tw_615 : (.selects RX11 yX11_told yX11_told : Cond) ∈ lw_tbl := lf_3 _ (List.mem_of_getElem? (i := 184) (by decide +kernel))
set_option maxRecDepth 20000 in
theorem tw_616 : (.instanceMethod yX11_told : Cond) ∈ lw_tbl := lf_3 _ (List.mem_of_getElem? (i := 183) (by decide +kernel))
set_option maxRecDepth 20000 in
theorem tw_617 : (.methodLink RL 85 yX11_told : Cond) ∈ lw_tbl := lf_3 _ (List.mem_of_getElem? (i := 182) (by decide +kernel))
theorem gL_h_told : GoodIn lw_tbl (wsV RL 85 RX11 yX11_told zs_h_told) := goodIn_app (goodIn_sub (List.forall_mem_cons.mpr ⟨tw_617, List.forall_mem_cons.mpr ⟨tw_616, List.forall_mem_cons.mpr ⟨tw_615, List.forall_mem_cons.mpr ⟨tw_191, fun _ h => absurd h List.not_mem_nil⟩⟩⟩⟩) (by decide +kernel)) (goodIn_sub tb_h_told gd_h_told)
set_option maxRecDepth 20000 in
theorem tw_618 : (.code yX12_told cX12_told 3 (some .int) : Cond) ∈ lw_tbl := lf_6 _ (List.mem_of_getElem? (i := 40) rfl)
theorem tb_m_told : ∀ w ∈ zs_m_told, w ∈ lw_tbl := List.forall_mem_cons.mpr ⟨tw_618, List.forall_mem_append.mpr ⟨List.forall_mem_cons.mpr ⟨tw_312, fun _ h => absurd h List.not_mem_nil⟩, List.forall_mem_append.mpr ⟨in_wsX120, fun _ h => absurd h List.not_mem_nil⟩⟩⟩
set_option maxRecDepth 20000 in
theorem tw_619 : (.selects RX12 yX12_told yX12_told : Cond) ∈ lw_tbl := lf_6 _ (List.mem_of_getElem? (i := 39) (by decide +kernel))
set_option maxRecDepth 20000 in
theorem tw_620 : (.instanceMethod yX12_told : Cond) ∈ lw_tbl := lf_6 _ (List.mem_of_getElem? (i := 38) (by decide +kernel))
set_option maxRecDepth 20000 in
theorem tw_621 : (.methodLink RL 88 yX12_told : Cond) ∈ lw_tbl := lf_6 _ (List.mem_of_getElem? (i := 37) (by decide +kernel))
theorem gL_m_told : GoodIn lw_tbl (wsV RL 88 RX12 yX12_told zs_m_told) := goodIn_app (goodIn_sub (List.forall_mem_cons.mpr ⟨tw_621, List.forall_mem_cons.mpr ⟨tw_620, List.forall_mem_cons.mpr ⟨tw_619, List.forall_mem_cons.mpr ⟨tw_198, fun _ h => absurd h List.not_mem_nil⟩⟩⟩⟩) (by decide +kernel)) (goodIn_sub tb_m_told gd_m_told)
set_option maxRecDepth 20000 in
theorem tw_622 : (.code yX11_isKept cX11_isKept 2 (some .boolean) : Cond) ∈ lw_tbl := lf_3 _ (List.mem_of_getElem? (i := 193) rfl)
theorem tb_h_isKept : ∀ w ∈ zs_h_isKept, w ∈ lw_tbl := List.forall_mem_cons.mpr ⟨tw_622, List.forall_mem_append.mpr ⟨List.forall_mem_cons.mpr ⟨tw_276, fun _ h => absurd h List.not_mem_nil⟩, List.forall_mem_append.mpr ⟨in_wsX110, fun _ h => absurd h List.not_mem_nil⟩⟩⟩
set_option maxRecDepth 20000 in
theorem tw_623 : (.selects RX11 yX11_isKept yX11_isKept : Cond) ∈ lw_tbl := List.mem_append_left _ (List.mem_of_getElem? (i := 23) (by decide +kernel))
set_option maxRecDepth 20000 in
theorem tw_624 : (.instanceMethod yX11_isKept : Cond) ∈ lw_tbl := lf_3 _ (List.mem_of_getElem? (i := 192) (by decide +kernel))
set_option maxRecDepth 20000 in
theorem tw_625 : (.methodLink RX11 216 yX11_isKept : Cond) ∈ lw_tbl := lf_3 _ (List.mem_of_getElem? (i := 190) (by decide +kernel))
set_option maxRecDepth 20000 in
theorem tw_626 : (.code yX11_cue cX11_cue 6 (some .int) : Cond) ∈ lw_tbl := lf_3 _ (List.mem_of_getElem? (i := 198) rfl)
theorem tb_h_cue : ∀ w ∈ zs_h_cue, w ∈ lw_tbl := List.forall_mem_cons.mpr ⟨tw_626, List.forall_mem_append.mpr ⟨List.forall_mem_cons.mpr ⟨tw_625, List.forall_mem_cons.mpr ⟨tw_624, List.forall_mem_cons.mpr ⟨tw_623, List.forall_mem_cons.mpr ⟨tw_191, fun _ h => absurd h List.not_mem_nil⟩⟩⟩⟩, List.forall_mem_append.mpr ⟨tb_h_isKept, fun _ h => absurd h List.not_mem_nil⟩⟩⟩
set_option maxRecDepth 20000 in
theorem tw_627 : (.selects RX11 yX11_cue yX11_cue : Cond) ∈ lw_tbl := lf_3 _ (List.mem_of_getElem? (i := 197) (by decide +kernel))
set_option maxRecDepth 20000 in
theorem tw_628 : (.instanceMethod yX11_cue : Cond) ∈ lw_tbl := lf_3 _ (List.mem_of_getElem? (i := 196) (by decide +kernel))
set_option maxRecDepth 20000 in
theorem tw_629 : (.methodLink RL 89 yX11_cue : Cond) ∈ lw_tbl := lf_3 _ (List.mem_of_getElem? (i := 195) (by decide +kernel))
theorem gL_h_cue : GoodIn lw_tbl (wsV RL 89 RX11 yX11_cue zs_h_cue) := goodIn_app (goodIn_sub (List.forall_mem_cons.mpr ⟨tw_629, List.forall_mem_cons.mpr ⟨tw_628, List.forall_mem_cons.mpr ⟨tw_627, List.forall_mem_cons.mpr ⟨tw_191, fun _ h => absurd h List.not_mem_nil⟩⟩⟩⟩) (by decide +kernel)) (goodIn_sub tb_h_cue gd_h_cue)
set_option maxRecDepth 20000 in
theorem tw_630 : (.code yX12_isKept cX12_isKept 2 (some .boolean) : Cond) ∈ lw_tbl := lf_6 _ (List.mem_of_getElem? (i := 44) rfl)
theorem tb_m_isKept : ∀ w ∈ zs_m_isKept, w ∈ lw_tbl := List.forall_mem_cons.mpr ⟨tw_630, List.forall_mem_append.mpr ⟨List.forall_mem_cons.mpr ⟨tw_312, fun _ h => absurd h List.not_mem_nil⟩, List.forall_mem_append.mpr ⟨in_wsX120, fun _ h => absurd h List.not_mem_nil⟩⟩⟩
set_option maxRecDepth 20000 in
theorem tw_631 : (.selects RX12 yX12_isKept yX12_isKept : Cond) ∈ lw_tbl := List.mem_append_left _ (List.mem_of_getElem? (i := 60) (by decide +kernel))
set_option maxRecDepth 20000 in
theorem tw_632 : (.instanceMethod yX12_isKept : Cond) ∈ lw_tbl := lf_6 _ (List.mem_of_getElem? (i := 43) (by decide +kernel))
set_option maxRecDepth 20000 in
theorem tw_633 : (.methodLink RX12 401 yX12_isKept : Cond) ∈ lw_tbl := lf_6 _ (List.mem_of_getElem? (i := 41) (by decide +kernel))
set_option maxRecDepth 20000 in
theorem tw_634 : (.code yX12_cue cX12_cue 6 (some .int) : Cond) ∈ lw_tbl := lf_6 _ (List.mem_of_getElem? (i := 48) rfl)
theorem tb_m_cue : ∀ w ∈ zs_m_cue, w ∈ lw_tbl := List.forall_mem_cons.mpr ⟨tw_634, List.forall_mem_append.mpr ⟨List.forall_mem_cons.mpr ⟨tw_633, List.forall_mem_cons.mpr ⟨tw_632, List.forall_mem_cons.mpr ⟨tw_631, List.forall_mem_cons.mpr ⟨tw_198, fun _ h => absurd h List.not_mem_nil⟩⟩⟩⟩, List.forall_mem_append.mpr ⟨tb_m_isKept, fun _ h => absurd h List.not_mem_nil⟩⟩⟩
set_option maxRecDepth 20000 in
theorem tw_635 : (.selects RX12 yX12_cue yX12_cue : Cond) ∈ lw_tbl := lf_6 _ (List.mem_of_getElem? (i := 47) (by decide +kernel))
set_option maxRecDepth 20000 in
theorem tw_636 : (.instanceMethod yX12_cue : Cond) ∈ lw_tbl := lf_6 _ (List.mem_of_getElem? (i := 46) (by decide +kernel))
set_option maxRecDepth 20000 in
theorem tw_637 : (.methodLink RL 92 yX12_cue : Cond) ∈ lw_tbl := lf_6 _ (List.mem_of_getElem? (i := 45) (by decide +kernel))
theorem gL_m_cue : GoodIn lw_tbl (wsV RL 92 RX12 yX12_cue zs_m_cue) := goodIn_app (goodIn_sub (List.forall_mem_cons.mpr ⟨tw_637, List.forall_mem_cons.mpr ⟨tw_636, List.forall_mem_cons.mpr ⟨tw_635, List.forall_mem_cons.mpr ⟨tw_198, fun _ h => absurd h List.not_mem_nil⟩⟩⟩⟩) (by decide +kernel)) (goodIn_sub tb_m_cue gd_m_cue)
set_option maxRecDepth 20000 in
theorem tw_638 : (.code yX11_showing cX11_showing 3 (some .int) : Cond) ∈ lw_tbl := lf_3 _ (List.mem_of_getElem? (i := 238) rfl)
theorem tb_h_showing : ∀ w ∈ zs_h_showing, w ∈ lw_tbl := List.forall_mem_cons.mpr ⟨tw_638, List.forall_mem_append.mpr ⟨List.forall_mem_cons.mpr ⟨tw_625, List.forall_mem_cons.mpr ⟨tw_624, List.forall_mem_cons.mpr ⟨tw_623, List.forall_mem_cons.mpr ⟨tw_191, fun _ h => absurd h List.not_mem_nil⟩⟩⟩⟩, List.forall_mem_append.mpr ⟨tb_h_isKept, fun _ h => absurd h List.not_mem_nil⟩⟩⟩
set_option maxRecDepth 20000 in
theorem tw_639 : (.selects RX11 yX11_showing yX11_showing : Cond) ∈ lw_tbl := lf_3 _ (List.mem_of_getElem? (i := 237) (by decide +kernel))
set_option maxRecDepth 20000 in
theorem tw_640 : (.instanceMethod yX11_showing : Cond) ∈ lw_tbl := lf_3 _ (List.mem_of_getElem? (i := 236) (by decide +kernel))
set_option maxRecDepth 20000 in
theorem tw_641 : (.methodLink RL 93 yX11_showing : Cond) ∈ lw_tbl := lf_3 _ (List.mem_of_getElem? (i := 235) (by decide +kernel))
theorem gL_h_showing : GoodIn lw_tbl (wsV RL 93 RX11 yX11_showing zs_h_showing) := goodIn_app (goodIn_sub (List.forall_mem_cons.mpr ⟨tw_641, List.forall_mem_cons.mpr ⟨tw_640, List.forall_mem_cons.mpr ⟨tw_639, List.forall_mem_cons.mpr ⟨tw_191, fun _ h => absurd h List.not_mem_nil⟩⟩⟩⟩) (by decide +kernel)) (goodIn_sub tb_h_showing gd_h_showing)
set_option maxRecDepth 20000 in
theorem tw_642 : (.code yX12_showing cX12_showing 5 (some .int) : Cond) ∈ lw_tbl := lf_6 _ (List.mem_of_getElem? (i := 56) rfl)
theorem tb_m_showing : ∀ w ∈ zs_m_showing, w ∈ lw_tbl := List.forall_mem_cons.mpr ⟨tw_642, List.forall_mem_append.mpr ⟨List.forall_mem_cons.mpr ⟨tw_633, List.forall_mem_cons.mpr ⟨tw_632, List.forall_mem_cons.mpr ⟨tw_631, List.forall_mem_cons.mpr ⟨tw_198, fun _ h => absurd h List.not_mem_nil⟩⟩⟩⟩, List.forall_mem_append.mpr ⟨tb_m_isKept, fun _ h => absurd h List.not_mem_nil⟩⟩⟩
set_option maxRecDepth 20000 in
theorem tw_643 : (.selects RX12 yX12_showing yX12_showing : Cond) ∈ lw_tbl := lf_6 _ (List.mem_of_getElem? (i := 55) (by decide +kernel))
set_option maxRecDepth 20000 in
theorem tw_644 : (.instanceMethod yX12_showing : Cond) ∈ lw_tbl := lf_6 _ (List.mem_of_getElem? (i := 54) (by decide +kernel))
set_option maxRecDepth 20000 in
theorem tw_645 : (.methodLink RL 96 yX12_showing : Cond) ∈ lw_tbl := lf_6 _ (List.mem_of_getElem? (i := 53) (by decide +kernel))
theorem gL_m_showing : GoodIn lw_tbl (wsV RL 96 RX12 yX12_showing zs_m_showing) := goodIn_app (goodIn_sub (List.forall_mem_cons.mpr ⟨tw_645, List.forall_mem_cons.mpr ⟨tw_644, List.forall_mem_cons.mpr ⟨tw_643, List.forall_mem_cons.mpr ⟨tw_198, fun _ h => absurd h List.not_mem_nil⟩⟩⟩⟩) (by decide +kernel)) (goodIn_sub tb_m_showing gd_m_showing)
set_option maxRecDepth 20000 in
theorem tw_646 : (.code yX11_blame cX11_blame 4 (some .int) : Cond) ∈ lw_tbl := lf_4 _ (List.mem_of_getElem? (i := 2) rfl)
theorem tb_h_blame : ∀ w ∈ zs_h_blame, w ∈ lw_tbl := List.forall_mem_cons.mpr ⟨tw_646, List.forall_mem_append.mpr ⟨List.forall_mem_cons.mpr ⟨tw_276, fun _ h => absurd h List.not_mem_nil⟩, List.forall_mem_append.mpr ⟨in_wsX110, fun _ h => absurd h List.not_mem_nil⟩⟩⟩
set_option maxRecDepth 20000 in
theorem tw_647 : (.selects RX11 yX11_blame yX11_blame : Cond) ∈ lw_tbl := lf_4 _ (List.mem_of_getElem? (i := 1) (by decide +kernel))
set_option maxRecDepth 20000 in
theorem tw_648 : (.instanceMethod yX11_blame : Cond) ∈ lw_tbl := lf_4 _ (List.mem_of_getElem? (i := 0) (by decide +kernel))
set_option maxRecDepth 20000 in
theorem tw_649 : (.methodLink RL 97 yX11_blame : Cond) ∈ lw_tbl := lf_3 _ (List.mem_of_getElem? (i := 239) (by decide +kernel))
theorem gL_h_blame : GoodIn lw_tbl (wsV RL 97 RX11 yX11_blame zs_h_blame) := goodIn_app (goodIn_sub (List.forall_mem_cons.mpr ⟨tw_649, List.forall_mem_cons.mpr ⟨tw_648, List.forall_mem_cons.mpr ⟨tw_647, List.forall_mem_cons.mpr ⟨tw_191, fun _ h => absurd h List.not_mem_nil⟩⟩⟩⟩) (by decide +kernel)) (goodIn_sub tb_h_blame gd_h_blame)
set_option maxRecDepth 20000 in
theorem tw_650 : (.code yX12_blame cX12_blame 11 (some .int) : Cond) ∈ lw_tbl := lf_6 _ (List.mem_of_getElem? (i := 72) rfl)
theorem tb_m_blame : ∀ w ∈ zs_m_blame, w ∈ lw_tbl := List.forall_mem_cons.mpr ⟨tw_650, List.forall_mem_append.mpr ⟨List.forall_mem_cons.mpr ⟨tw_424, List.forall_mem_cons.mpr ⟨tw_423, List.forall_mem_cons.mpr ⟨tw_422, List.forall_mem_cons.mpr ⟨tw_198, fun _ h => absurd h List.not_mem_nil⟩⟩⟩⟩, List.forall_mem_append.mpr ⟨tb_m_isPlate, fun _ h => absurd h List.not_mem_nil⟩⟩⟩
set_option maxRecDepth 20000 in
theorem tw_651 : (.selects RX12 yX12_blame yX12_blame : Cond) ∈ lw_tbl := lf_6 _ (List.mem_of_getElem? (i := 71) (by decide +kernel))
set_option maxRecDepth 20000 in
theorem tw_652 : (.instanceMethod yX12_blame : Cond) ∈ lw_tbl := lf_6 _ (List.mem_of_getElem? (i := 70) (by decide +kernel))
set_option maxRecDepth 20000 in
theorem tw_653 : (.methodLink RL 100 yX12_blame : Cond) ∈ lw_tbl := lf_6 _ (List.mem_of_getElem? (i := 69) (by decide +kernel))
theorem gL_m_blame : GoodIn lw_tbl (wsV RL 100 RX12 yX12_blame zs_m_blame) := goodIn_app (goodIn_sub (List.forall_mem_cons.mpr ⟨tw_653, List.forall_mem_cons.mpr ⟨tw_652, List.forall_mem_cons.mpr ⟨tw_651, List.forall_mem_cons.mpr ⟨tw_198, fun _ h => absurd h List.not_mem_nil⟩⟩⟩⟩) (by decide +kernel)) (goodIn_sub tb_m_blame gd_m_blame)
set_option maxRecDepth 20000 in
theorem tw_654 : (.code yX11_where cX11_where 3 (some .int) : Cond) ∈ lw_tbl := lf_4 _ (List.mem_of_getElem? (i := 32) rfl)
theorem tb_h_where : ∀ w ∈ zs_h_where, w ∈ lw_tbl := List.forall_mem_cons.mpr ⟨tw_654, List.forall_mem_append.mpr ⟨List.forall_mem_cons.mpr ⟨tw_276, fun _ h => absurd h List.not_mem_nil⟩, List.forall_mem_append.mpr ⟨in_wsX110, fun _ h => absurd h List.not_mem_nil⟩⟩⟩
set_option maxRecDepth 20000 in
theorem tw_655 : (.selects RX11 yX11_where yX11_where : Cond) ∈ lw_tbl := lf_4 _ (List.mem_of_getElem? (i := 31) (by decide +kernel))
set_option maxRecDepth 20000 in
theorem tw_656 : (.instanceMethod yX11_where : Cond) ∈ lw_tbl := lf_4 _ (List.mem_of_getElem? (i := 30) (by decide +kernel))
set_option maxRecDepth 20000 in
theorem tw_657 : (.methodLink RL 101 yX11_where : Cond) ∈ lw_tbl := lf_4 _ (List.mem_of_getElem? (i := 29) (by decide +kernel))
theorem gL_h_where : GoodIn lw_tbl (wsV RL 101 RX11 yX11_where zs_h_where) := goodIn_app (goodIn_sub (List.forall_mem_cons.mpr ⟨tw_657, List.forall_mem_cons.mpr ⟨tw_656, List.forall_mem_cons.mpr ⟨tw_655, List.forall_mem_cons.mpr ⟨tw_191, fun _ h => absurd h List.not_mem_nil⟩⟩⟩⟩) (by decide +kernel)) (goodIn_sub tb_h_where gd_h_where)
set_option maxRecDepth 20000 in
theorem tw_658 : (.code yX12_where cX12_where 5 (some .int) : Cond) ∈ lw_tbl := lf_6 _ (List.mem_of_getElem? (i := 80) rfl)
theorem tb_m_where : ∀ w ∈ zs_m_where, w ∈ lw_tbl := List.forall_mem_cons.mpr ⟨tw_658, List.forall_mem_append.mpr ⟨List.forall_mem_cons.mpr ⟨tw_424, List.forall_mem_cons.mpr ⟨tw_423, List.forall_mem_cons.mpr ⟨tw_422, List.forall_mem_cons.mpr ⟨tw_198, fun _ h => absurd h List.not_mem_nil⟩⟩⟩⟩, List.forall_mem_append.mpr ⟨tb_m_isPlate, fun _ h => absurd h List.not_mem_nil⟩⟩⟩
set_option maxRecDepth 20000 in
theorem tw_659 : (.selects RX12 yX12_where yX12_where : Cond) ∈ lw_tbl := lf_6 _ (List.mem_of_getElem? (i := 79) (by decide +kernel))
set_option maxRecDepth 20000 in
theorem tw_660 : (.instanceMethod yX12_where : Cond) ∈ lw_tbl := lf_6 _ (List.mem_of_getElem? (i := 78) (by decide +kernel))
set_option maxRecDepth 20000 in
theorem tw_661 : (.methodLink RL 104 yX12_where : Cond) ∈ lw_tbl := lf_6 _ (List.mem_of_getElem? (i := 77) (by decide +kernel))
theorem gL_m_where : GoodIn lw_tbl (wsV RL 104 RX12 yX12_where zs_m_where) := goodIn_app (goodIn_sub (List.forall_mem_cons.mpr ⟨tw_661, List.forall_mem_cons.mpr ⟨tw_660, List.forall_mem_cons.mpr ⟨tw_659, List.forall_mem_cons.mpr ⟨tw_198, fun _ h => absurd h List.not_mem_nil⟩⟩⟩⟩) (by decide +kernel)) (goodIn_sub tb_m_where gd_m_where)
set_option maxRecDepth 20000 in
theorem tw_662 : (.fieldLink RX11 292 "LanternHouse$Shows" "size" "I" : Cond) ∈ lw_tbl := lf_1 _ (List.mem_of_getElem? (i := 43) (by decide +kernel))
set_option maxRecDepth 20000 in
theorem tw_663 : (.fieldLink RX11 291 "LanternHouse$Lectures" "size" "I" : Cond) ∈ lw_tbl := lf_0 _ (List.mem_of_getElem? (i := 228) (by decide +kernel))
set_option maxRecDepth 20000 in
theorem tw_664 : (.fieldLink RX11 290 "LanternHouse$Facts" "size" "I" : Cond) ∈ lw_tbl := lf_0 _ (List.mem_of_getElem? (i := 175) (by decide +kernel))
set_option maxRecDepth 20000 in
theorem tw_665 : (.fieldLink RX11 285 "LanternHouse$Rails" "halls" "I" : Cond) ∈ lw_tbl := lf_0 _ (List.mem_of_getElem? (i := 121) (by decide +kernel))
set_option maxRecDepth 20000 in
theorem tw_666 : (.code yX11_count cX11_count 2 (some .int) : Cond) ∈ lw_tbl := lf_4 _ (List.mem_of_getElem? (i := 41) rfl)
theorem tb_h_count : ∀ w ∈ zs_h_count, w ∈ lw_tbl := List.forall_mem_cons.mpr ⟨tw_666, List.forall_mem_append.mpr ⟨List.forall_mem_cons.mpr ⟨tw_340, List.forall_mem_cons.mpr ⟨tw_665, List.forall_mem_cons.mpr ⟨tw_402, List.forall_mem_cons.mpr ⟨tw_380, List.forall_mem_cons.mpr ⟨tw_412, List.forall_mem_cons.mpr ⟨tw_478, List.forall_mem_cons.mpr ⟨tw_664, List.forall_mem_cons.mpr ⟨tw_278, List.forall_mem_cons.mpr ⟨tw_277, List.forall_mem_cons.mpr ⟨tw_663, List.forall_mem_cons.mpr ⟨tw_662, List.forall_mem_cons.mpr ⟨tw_276, List.forall_mem_cons.mpr ⟨tw_189, List.forall_mem_cons.mpr ⟨tw_188, fun _ h => absurd h List.not_mem_nil⟩⟩⟩⟩⟩⟩⟩⟩⟩⟩⟩⟩⟩⟩, List.forall_mem_append.mpr ⟨in_wsX110, List.forall_mem_append.mpr ⟨in_wsX40, List.forall_mem_append.mpr ⟨in_wsX80, List.forall_mem_append.mpr ⟨in_wsX00, List.forall_mem_append.mpr ⟨in_wsX70, List.forall_mem_append.mpr ⟨in_wsX20, List.forall_mem_append.mpr ⟨in_wsX90, fun _ h => absurd h List.not_mem_nil⟩⟩⟩⟩⟩⟩⟩⟩⟩
set_option maxRecDepth 20000 in
theorem tw_667 : (.selects RX11 yX11_count yX11_count : Cond) ∈ lw_tbl := lf_4 _ (List.mem_of_getElem? (i := 40) (by decide +kernel))
set_option maxRecDepth 20000 in
theorem tw_668 : (.instanceMethod yX11_count : Cond) ∈ lw_tbl := lf_4 _ (List.mem_of_getElem? (i := 39) (by decide +kernel))
set_option maxRecDepth 20000 in
theorem tw_669 : (.methodLink RL 105 yX11_count : Cond) ∈ lw_tbl := lf_4 _ (List.mem_of_getElem? (i := 38) (by decide +kernel))
theorem gL_h_count : GoodIn lw_tbl (wsV RL 105 RX11 yX11_count zs_h_count) := goodIn_app (goodIn_sub (List.forall_mem_cons.mpr ⟨tw_669, List.forall_mem_cons.mpr ⟨tw_668, List.forall_mem_cons.mpr ⟨tw_667, List.forall_mem_cons.mpr ⟨tw_191, fun _ h => absurd h List.not_mem_nil⟩⟩⟩⟩) (by decide +kernel)) (goodIn_sub tb_h_count gd_h_count)
set_option maxRecDepth 20000 in
theorem tw_670 : (.code yX12_count cX12_count 2 (some .int) : Cond) ∈ lw_tbl := lf_6 _ (List.mem_of_getElem? (i := 84) rfl)
theorem tb_m_count : ∀ w ∈ zs_m_count, w ∈ lw_tbl := List.forall_mem_cons.mpr ⟨tw_670, List.forall_mem_append.mpr ⟨List.forall_mem_cons.mpr ⟨tw_345, List.forall_mem_cons.mpr ⟨tw_367, List.forall_mem_cons.mpr ⟨tw_386, List.forall_mem_cons.mpr ⟨tw_407, List.forall_mem_cons.mpr ⟨tw_316, List.forall_mem_cons.mpr ⟨tw_318, List.forall_mem_cons.mpr ⟨tw_312, List.forall_mem_cons.mpr ⟨tw_311, List.forall_mem_cons.mpr ⟨tw_195, fun _ h => absurd h List.not_mem_nil⟩⟩⟩⟩⟩⟩⟩⟩⟩, List.forall_mem_append.mpr ⟨in_wsX120, fun _ h => absurd h List.not_mem_nil⟩⟩⟩
set_option maxRecDepth 20000 in
theorem tw_671 : (.selects RX12 yX12_count yX12_count : Cond) ∈ lw_tbl := lf_6 _ (List.mem_of_getElem? (i := 83) (by decide +kernel))
set_option maxRecDepth 20000 in
theorem tw_672 : (.instanceMethod yX12_count : Cond) ∈ lw_tbl := lf_6 _ (List.mem_of_getElem? (i := 82) (by decide +kernel))
set_option maxRecDepth 20000 in
theorem tw_673 : (.methodLink RL 108 yX12_count : Cond) ∈ lw_tbl := lf_6 _ (List.mem_of_getElem? (i := 81) (by decide +kernel))
theorem gL_m_count : GoodIn lw_tbl (wsV RL 108 RX12 yX12_count zs_m_count) := goodIn_app (goodIn_sub (List.forall_mem_cons.mpr ⟨tw_673, List.forall_mem_cons.mpr ⟨tw_672, List.forall_mem_cons.mpr ⟨tw_671, List.forall_mem_cons.mpr ⟨tw_198, fun _ h => absurd h List.not_mem_nil⟩⟩⟩⟩) (by decide +kernel)) (goodIn_sub tb_m_count gd_m_count)
set_option maxRecDepth 20000 in
theorem tw_674 : (.arrayClass .byte : Cond) ∈ lw_tbl := lf_0 _ (List.mem_of_getElem? (i := 44) (by decide +kernel))
set_option maxRecDepth 20000 in
theorem tw_675 : (.code objectInit ⟨#[0xb1]⟩ 1 none : Cond) ∈ lw_tbl := lf_0 _ (List.mem_of_getElem? (i := 28) rfl)
set_option maxRecDepth 20000 in
theorem tw_676 : (.instanceMethod objectInit : Cond) ∈ lw_tbl := lf_0 _ (List.mem_of_getElem? (i := 27) (by decide +kernel))
set_option maxRecDepth 20000 in
theorem tw_677 : (.methodLink RX9 3 objectInit : Cond) ∈ lw_tbl := lf_0 _ (List.mem_of_getElem? (i := 34) (by decide +kernel))
set_option maxRecDepth 20000 in
theorem tw_678 : (.code yX9_init cX9_init 1 none : Cond) ∈ lw_tbl := lf_0 _ (List.mem_of_getElem? (i := 33) rfl)
set_option maxRecDepth 20000 in
theorem tw_679 : (.arrayClass .long : Cond) ∈ lw_tbl := lf_0 _ (List.mem_of_getElem? (i := 65) (by decide +kernel))
set_option maxRecDepth 20000 in
theorem tw_680 : (.arrayClass .int : Cond) ∈ lw_tbl := lf_0 _ (List.mem_of_getElem? (i := 64) (by decide +kernel))
set_option maxRecDepth 20000 in
theorem tw_681 : (.methodLink RX10 3 objectInit : Cond) ∈ lw_tbl := lf_0 _ (List.mem_of_getElem? (i := 50) (by decide +kernel))
set_option maxRecDepth 20000 in
theorem tw_682 : (.code yX10_init cX10_init 1 none : Cond) ∈ lw_tbl := lf_0 _ (List.mem_of_getElem? (i := 49) rfl)
set_option maxRecDepth 20000 in
theorem tw_683 : (.fieldLink RX5 26 "LanternHouse$Reader" "valuePlace" "I" : Cond) ∈ lw_tbl := lf_0 _ (List.mem_of_getElem? (i := 78) (by decide +kernel))
set_option maxRecDepth 20000 in
theorem tw_684 : (.fieldLink RX5 22 "LanternHouse$Reader" "value" "J" : Cond) ∈ lw_tbl := lf_0 _ (List.mem_of_getElem? (i := 77) (by decide +kernel))
set_option maxRecDepth 20000 in
theorem tw_685 : (.fieldLink RX5 15 "LanternHouse$Reader" "waitingCount" "I" : Cond) ∈ lw_tbl := lf_0 _ (List.mem_of_getElem? (i := 74) (by decide +kernel))
set_option maxRecDepth 20000 in
theorem tw_686 : (.fieldLink RX5 11 "LanternHouse$Reader" "waiting" "[I" : Cond) ∈ lw_tbl := lf_0 _ (List.mem_of_getElem? (i := 73) (by decide +kernel))
set_option maxRecDepth 20000 in
theorem tw_687 : (.methodLink RX5 5 objectInit : Cond) ∈ lw_tbl := lf_0 _ (List.mem_of_getElem? (i := 71) (by decide +kernel))
set_option maxRecDepth 20000 in
theorem tw_688 : (.code yX5_init cX5_init 2 none : Cond) ∈ lw_tbl := lf_0 _ (List.mem_of_getElem? (i := 70) rfl)
set_option maxRecDepth 20000 in
theorem tw_689 : (.fieldLink RX4 21 "LanternHouse$Rails" "lengths" "[I" : Cond) ∈ lw_tbl := lf_0 _ (List.mem_of_getElem? (i := 117) (by decide +kernel))
set_option maxRecDepth 20000 in
theorem tw_690 : (.fieldLink RX4 18 "LanternHouse$Rails" "hours" "[I" : Cond) ∈ lw_tbl := lf_0 _ (List.mem_of_getElem? (i := 116) (by decide +kernel))
set_option maxRecDepth 20000 in
theorem tw_691 : (.fieldLink RX4 15 "LanternHouse$Rails" "tos" "[I" : Cond) ∈ lw_tbl := lf_0 _ (List.mem_of_getElem? (i := 115) (by decide +kernel))
set_option maxRecDepth 20000 in
theorem tw_692 : (.fieldLink RX4 11 "LanternHouse$Rails" "froms" "[I" : Cond) ∈ lw_tbl := lf_0 _ (List.mem_of_getElem? (i := 114) (by decide +kernel))
set_option maxRecDepth 20000 in
theorem tw_693 : (.methodLink RX4 3 objectInit : Cond) ∈ lw_tbl := lf_0 _ (List.mem_of_getElem? (i := 113) (by decide +kernel))
set_option maxRecDepth 20000 in
theorem tw_694 : (.code yX4_init cX4_init 1 none : Cond) ∈ lw_tbl := lf_0 _ (List.mem_of_getElem? (i := 112) rfl)
set_option maxRecDepth 20000 in
theorem tw_695 : (.methodLink RX8 3 objectInit : Cond) ∈ lw_tbl := lf_0 _ (List.mem_of_getElem? (i := 146) (by decide +kernel))
set_option maxRecDepth 20000 in
theorem tw_696 : (.code yX8_init cX8_init 1 none : Cond) ∈ lw_tbl := lf_0 _ (List.mem_of_getElem? (i := 145) rfl)
set_option maxRecDepth 20000 in
theorem tw_697 : (.fieldLink RX0 23 "LanternHouse$Facts" "latest" "[I" : Cond) ∈ lw_tbl := lf_0 _ (List.mem_of_getElem? (i := 173) (by decide +kernel))
set_option maxRecDepth 20000 in
theorem tw_698 : (.fieldLink RX0 18 "LanternHouse$Facts" "times" "[I" : Cond) ∈ lw_tbl := lf_0 _ (List.mem_of_getElem? (i := 170) (by decide +kernel))
set_option maxRecDepth 20000 in
theorem tw_699 : (.fieldLink RX0 15 "LanternHouse$Facts" "subjects" "[I" : Cond) ∈ lw_tbl := lf_0 _ (List.mem_of_getElem? (i := 168) (by decide +kernel))
set_option maxRecDepth 20000 in
theorem tw_700 : (.fieldLink RX0 11 "LanternHouse$Facts" "sorts" "[I" : Cond) ∈ lw_tbl := lf_0 _ (List.mem_of_getElem? (i := 166) (by decide +kernel))
set_option maxRecDepth 20000 in
theorem tw_701 : (.methodLink RX0 3 objectInit : Cond) ∈ lw_tbl := lf_0 _ (List.mem_of_getElem? (i := 165) (by decide +kernel))
set_option maxRecDepth 20000 in
theorem tw_702 : (.code yX0_init cX0_init 1 none : Cond) ∈ lw_tbl := lf_0 _ (List.mem_of_getElem? (i := 164) rfl)
set_option maxRecDepth 20000 in
theorem tw_703 : (.fieldLink RX2 44 "LanternHouse$Lectures" "code" "[I" : Cond) ∈ lw_tbl := lf_0 _ (List.mem_of_getElem? (i := 222) (by decide +kernel))
set_option maxRecDepth 20000 in
theorem tw_704 : (.fieldLink RX2 39 "LanternHouse$Lectures" "hireEnds" "[I" : Cond) ∈ lw_tbl := lf_0 _ (List.mem_of_getElem? (i := 219) (by decide +kernel))
set_option maxRecDepth 20000 in
theorem tw_705 : (.fieldLink RX2 36 "LanternHouse$Lectures" "hireStarts" "[I" : Cond) ∈ lw_tbl := lf_0 _ (List.mem_of_getElem? (i := 216) (by decide +kernel))
set_option maxRecDepth 20000 in
theorem tw_706 : (.fieldLink RX2 33 "LanternHouse$Lectures" "fades" "[I" : Cond) ∈ lw_tbl := lf_0 _ (List.mem_of_getElem? (i := 213) (by decide +kernel))
set_option maxRecDepth 20000 in
theorem tw_707 : (.fieldLink RX2 30 "LanternHouse$Lectures" "minutes" "[I" : Cond) ∈ lw_tbl := lf_0 _ (List.mem_of_getElem? (i := 210) (by decide +kernel))
set_option maxRecDepth 20000 in
theorem tw_708 : (.fieldLink RX2 27 "LanternHouse$Lectures" "kinds" "[I" : Cond) ∈ lw_tbl := lf_0 _ (List.mem_of_getElem? (i := 208) (by decide +kernel))
set_option maxRecDepth 20000 in
theorem tw_709 : (.fieldLink RX2 24 "LanternHouse$Lectures" "kindCounts" "[I" : Cond) ∈ lw_tbl := lf_0 _ (List.mem_of_getElem? (i := 205) (by decide +kernel))
set_option maxRecDepth 20000 in
theorem tw_710 : (.fieldLink RX2 20 "LanternHouse$Lectures" "musts" "[Z" : Cond) ∈ lw_tbl := lf_0 _ (List.mem_of_getElem? (i := 202) (by decide +kernel))
set_option maxRecDepth 20000 in
theorem tw_711 : (.arrayClass .boolean : Cond) ∈ lw_tbl := lf_1 _ (List.mem_of_getElem? (i := 16) (by decide +kernel))
set_option maxRecDepth 20000 in
theorem tw_712 : (.fieldLink RX2 17 "LanternHouse$Lectures" "hireCounts" "[I" : Cond) ∈ lw_tbl := lf_0 _ (List.mem_of_getElem? (i := 199) (by decide +kernel))
set_option maxRecDepth 20000 in
theorem tw_713 : (.fieldLink RX2 13 "LanternHouse$Lectures" "cueCounts" "[I" : Cond) ∈ lw_tbl := lf_0 _ (List.mem_of_getElem? (i := 196) (by decide +kernel))
set_option maxRecDepth 20000 in
theorem tw_714 : (.fieldLink RX2 9 "LanternHouse$Lectures" "names" "[J" : Cond) ∈ lw_tbl := lf_0 _ (List.mem_of_getElem? (i := 195) (by decide +kernel))
set_option maxRecDepth 20000 in
theorem tw_715 : (.methodLink RX2 1 objectInit : Cond) ∈ lw_tbl := lf_0 _ (List.mem_of_getElem? (i := 194) (by decide +kernel))
set_option maxRecDepth 20000 in
theorem tw_716 : (.code yX2_init cX2_init 1 none : Cond) ∈ lw_tbl := lf_0 _ (List.mem_of_getElem? (i := 193) rfl)
set_option maxRecDepth 20000 in
theorem tw_717 : (.fieldLink RX7 27 "LanternHouse$Shows" "order" "[I" : Cond) ∈ lw_tbl := lf_1 _ (List.mem_of_getElem? (i := 37) (by decide +kernel))
set_option maxRecDepth 20000 in
theorem tw_718 : (.fieldLink RX7 24 "LanternHouse$Shows" "worths" "[I" : Cond) ∈ lw_tbl := lf_1 _ (List.mem_of_getElem? (i := 34) (by decide +kernel))
set_option maxRecDepth 20000 in
theorem tw_719 : (.fieldLink RX7 21 "LanternHouse$Shows" "gas" "[I" : Cond) ∈ lw_tbl := lf_1 _ (List.mem_of_getElem? (i := 31) (by decide +kernel))
set_option maxRecDepth 20000 in
theorem tw_720 : (.fieldLink RX7 18 "LanternHouse$Shows" "lectures" "[I" : Cond) ∈ lw_tbl := lf_1 _ (List.mem_of_getElem? (i := 27) (by decide +kernel))
set_option maxRecDepth 20000 in
theorem tw_721 : (.fieldLink RX7 15 "LanternHouse$Shows" "halls" "[I" : Cond) ∈ lw_tbl := lf_1 _ (List.mem_of_getElem? (i := 23) (by decide +kernel))
set_option maxRecDepth 20000 in
theorem tw_722 : (.fieldLink RX7 11 "LanternHouse$Shows" "nights" "[I" : Cond) ∈ lw_tbl := lf_1 _ (List.mem_of_getElem? (i := 21) (by decide +kernel))
set_option maxRecDepth 20000 in
theorem tw_723 : (.methodLink RX7 3 objectInit : Cond) ∈ lw_tbl := lf_1 _ (List.mem_of_getElem? (i := 20) (by decide +kernel))
set_option maxRecDepth 20000 in
theorem tw_724 : (.code yX7_init cX7_init 2 none : Cond) ∈ lw_tbl := lf_1 _ (List.mem_of_getElem? (i := 19) rfl)
set_option maxRecDepth 20000 in
theorem tw_725 : (.fieldLink RX1 37 "LanternHouse$Keeper" "stock" "LLanternHouse$Stock;" : Cond) ∈ lw_tbl := lf_1 _ (List.mem_of_getElem? (i := 74) (by decide +kernel))
set_option maxRecDepth 20000 in
theorem tw_726 : (.fieldLink RX1 29 "LanternHouse$Keeper" "cleaningHours" "I" : Cond) ∈ lw_tbl := lf_1 _ (List.mem_of_getElem? (i := 80) (by decide +kernel))
set_option maxRecDepth 20000 in
theorem tw_727 : (.fieldLink RX1 20 "LanternHouse$Keeper" "broken" "[I" : Cond) ∈ lw_tbl := lf_1 _ (List.mem_of_getElem? (i := 78) (by decide +kernel))
set_option maxRecDepth 20000 in
theorem tw_728 : (.classLink RX1 13 "[[I" : Cond) ∈ lw_tbl := lf_1 _ (List.mem_of_getElem? (i := 71) (by decide +kernel))
set_option maxRecDepth 20000 in
theorem tw_729 : (.methodLink RX1 5 objectInit : Cond) ∈ lw_tbl := lf_1 _ (List.mem_of_getElem? (i := 70) (by decide +kernel))
set_option maxRecDepth 20000 in
theorem tw_730 : (.code yX1_init cX1_init 5 none : Cond) ∈ lw_tbl := lf_1 _ (List.mem_of_getElem? (i := 69) rfl)
set_option maxRecDepth 20000 in
theorem tw_731 : (.fieldLink RX6 51 "LanternHouse$Showing" "hireNumber" "I" : Cond) ∈ lw_tbl := lf_1 _ (List.mem_of_getElem? (i := 125) (by decide +kernel))
set_option maxRecDepth 20000 in
theorem tw_732 : (.fieldLink RX6 48 "LanternHouse$Showing" "hire" "I" : Cond) ∈ lw_tbl := lf_1 _ (List.mem_of_getElem? (i := 123) (by decide +kernel))
set_option maxRecDepth 20000 in
theorem tw_733 : (.fieldLink RX6 45 "LanternHouse$Showing" "firstDark" "I" : Cond) ∈ lw_tbl := lf_1 _ (List.mem_of_getElem? (i := 121) (by decide +kernel))
set_option maxRecDepth 20000 in
theorem tw_734 : (.fieldLink RX6 42 "LanternHouse$Showing" "worth" "I" : Cond) ∈ lw_tbl := lf_1 _ (List.mem_of_getElem? (i := 120) (by decide +kernel))
set_option maxRecDepth 20000 in
theorem tw_735 : (.fieldLink RX6 39 "LanternHouse$Showing" "gas" "I" : Cond) ∈ lw_tbl := lf_1 _ (List.mem_of_getElem? (i := 118) (by decide +kernel))
set_option maxRecDepth 20000 in
theorem tw_736 : (.fieldLink RX6 36 "LanternHouse$Showing" "minutes" "I" : Cond) ∈ lw_tbl := lf_1 _ (List.mem_of_getElem? (i := 116) (by decide +kernel))
set_option maxRecDepth 20000 in
theorem tw_737 : (.fieldLink RX6 33 "LanternHouse$Showing" "instead" "I" : Cond) ∈ lw_tbl := lf_1 _ (List.mem_of_getElem? (i := 114) (by decide +kernel))
set_option maxRecDepth 20000 in
theorem tw_738 : (.fieldLink RX6 30 "LanternHouse$Showing" "missed" "I" : Cond) ∈ lw_tbl := lf_1 _ (List.mem_of_getElem? (i := 112) (by decide +kernel))
set_option maxRecDepth 20000 in
theorem tw_739 : (.fieldLink RX6 26 "LanternHouse$Showing" "shown" "I" : Cond) ∈ lw_tbl := lf_1 _ (List.mem_of_getElem? (i := 110) (by decide +kernel))
set_option maxRecDepth 20000 in
theorem tw_740 : (.fieldLink RX6 23 "LanternHouse$Showing" "values" "[I" : Cond) ∈ lw_tbl := lf_1 _ (List.mem_of_getElem? (i := 109) (by decide +kernel))
set_option maxRecDepth 20000 in
theorem tw_741 : (.fieldLink RX6 19 "LanternHouse$Showing" "isShown" "[Z" : Cond) ∈ lw_tbl := lf_1 _ (List.mem_of_getElem? (i := 107) (by decide +kernel))
set_option maxRecDepth 20000 in
theorem tw_742 : (.fieldLink RX6 13 "LanternHouse$Showing" "begins" "[I" : Cond) ∈ lw_tbl := lf_1 _ (List.mem_of_getElem? (i := 105) (by decide +kernel))
set_option maxRecDepth 20000 in
theorem tw_743 : (.methodLink RX6 5 objectInit : Cond) ∈ lw_tbl := lf_1 _ (List.mem_of_getElem? (i := 104) (by decide +kernel))
set_option maxRecDepth 20000 in
theorem tw_744 : (.code yX6_init cX6_init 1 none : Cond) ∈ lw_tbl := lf_1 _ (List.mem_of_getElem? (i := 103) rfl)
set_option maxRecDepth 20000 in
theorem tw_745 : (.fieldLink RX3 22 "LanternHouse$Plan" "standIns" "[Z" : Cond) ∈ lw_tbl := lf_1 _ (List.mem_of_getElem? (i := 162) (by decide +kernel))
set_option maxRecDepth 20000 in
theorem tw_746 : (.fieldLink RX3 19 "LanternHouse$Plan" "wayEnds" "[I" : Cond) ∈ lw_tbl := lf_1 _ (List.mem_of_getElem? (i := 161) (by decide +kernel))
set_option maxRecDepth 20000 in
theorem tw_747 : (.fieldLink RX3 13 "LanternHouse$Plan" "plates" "[I" : Cond) ∈ lw_tbl := lf_1 _ (List.mem_of_getElem? (i := 158) (by decide +kernel))
set_option maxRecDepth 20000 in
theorem tw_748 : (.methodLink RX3 3 objectInit : Cond) ∈ lw_tbl := lf_1 _ (List.mem_of_getElem? (i := 157) (by decide +kernel))
set_option maxRecDepth 20000 in
theorem tw_749 : (.code yX3_init cX3_init 1 none : Cond) ∈ lw_tbl := lf_1 _ (List.mem_of_getElem? (i := 156) rfl)
set_option maxRecDepth 20000 in
theorem tw_750 : (.instanceMethod yX3_init : Cond) ∈ lw_tbl := lf_1 _ (List.mem_of_getElem? (i := 155) (by decide +kernel))
set_option maxRecDepth 20000 in
theorem tw_751 : (.methodLink RX11 87 yX3_init : Cond) ∈ lw_tbl := lf_1 _ (List.mem_of_getElem? (i := 154) (by decide +kernel))
set_option maxRecDepth 20000 in
theorem tw_752 : (.instantiable RX3 8 : Cond) ∈ lw_tbl := lf_1 _ (List.mem_of_getElem? (i := 153) (by decide +kernel))
set_option maxRecDepth 20000 in
theorem tw_753 : (.classLink RX11 85 RX3 : Cond) ∈ lw_tbl := lf_1 _ (List.mem_of_getElem? (i := 152) (by decide +kernel))
set_option maxRecDepth 20000 in
theorem tw_754 : (.fieldLink RX11 77 "LanternHouse" "lastShowing" "LLanternHouse$Showing;" : Cond) ∈ lw_tbl := lf_1 _ (List.mem_of_getElem? (i := 200) (by decide +kernel))
set_option maxRecDepth 20000 in
theorem tw_755 : (.instanceMethod yX6_init : Cond) ∈ lw_tbl := lf_1 _ (List.mem_of_getElem? (i := 102) (by decide +kernel))
set_option maxRecDepth 20000 in
theorem tw_756 : (.methodLink RX11 76 yX6_init : Cond) ∈ lw_tbl := lf_1 _ (List.mem_of_getElem? (i := 101) (by decide +kernel))
set_option maxRecDepth 20000 in
theorem tw_757 : (.initialized RX6 : Cond) ∈ lw_tbl := lf_0 _ (List.mem_of_getElem? (i := 11) (by decide +kernel))
set_option maxRecDepth 20000 in
theorem tw_758 : (.instantiable RX6 12 : Cond) ∈ lw_tbl := lf_1 _ (List.mem_of_getElem? (i := 100) (by decide +kernel))
set_option maxRecDepth 20000 in
theorem tw_759 : (.classLink RX11 74 RX6 : Cond) ∈ lw_tbl := lf_1 _ (List.mem_of_getElem? (i := 99) (by decide +kernel))
set_option maxRecDepth 20000 in
theorem tw_760 : (.instanceMethod yX1_init : Cond) ∈ lw_tbl := lf_1 _ (List.mem_of_getElem? (i := 68) (by decide +kernel))
set_option maxRecDepth 20000 in
theorem tw_761 : (.methodLink RX11 67 yX1_init : Cond) ∈ lw_tbl := lf_1 _ (List.mem_of_getElem? (i := 67) (by decide +kernel))
set_option maxRecDepth 20000 in
theorem tw_762 : (.instantiable RX1 8 : Cond) ∈ lw_tbl := lf_1 _ (List.mem_of_getElem? (i := 66) (by decide +kernel))
set_option maxRecDepth 20000 in
theorem tw_763 : (.classLink RX11 65 RX1 : Cond) ∈ lw_tbl := lf_1 _ (List.mem_of_getElem? (i := 65) (by decide +kernel))
set_option maxRecDepth 20000 in
theorem tw_764 : (.instanceMethod yX7_init : Cond) ∈ lw_tbl := lf_1 _ (List.mem_of_getElem? (i := 18) (by decide +kernel))
set_option maxRecDepth 20000 in
theorem tw_765 : (.methodLink RX11 58 yX7_init : Cond) ∈ lw_tbl := lf_1 _ (List.mem_of_getElem? (i := 17) (by decide +kernel))
set_option maxRecDepth 20000 in
theorem tw_766 : (.instanceMethod yX2_init : Cond) ∈ lw_tbl := lf_0 _ (List.mem_of_getElem? (i := 192) (by decide +kernel))
set_option maxRecDepth 20000 in
theorem tw_767 : (.methodLink RX11 57 yX2_init : Cond) ∈ lw_tbl := lf_0 _ (List.mem_of_getElem? (i := 191) (by decide +kernel))
set_option maxRecDepth 20000 in
theorem tw_768 : (.instantiable RX2 13 : Cond) ∈ lw_tbl := lf_0 _ (List.mem_of_getElem? (i := 190) (by decide +kernel))
set_option maxRecDepth 20000 in
theorem tw_769 : (.classLink RX11 55 RX2 : Cond) ∈ lw_tbl := lf_0 _ (List.mem_of_getElem? (i := 189) (by decide +kernel))
set_option maxRecDepth 20000 in
theorem tw_770 : (.instantiable RX7 8 : Cond) ∈ lw_tbl := lf_0 _ (List.mem_of_getElem? (i := 188) (by decide +kernel))
set_option maxRecDepth 20000 in
theorem tw_771 : (.classLink RX11 53 RX7 : Cond) ∈ lw_tbl := lf_0 _ (List.mem_of_getElem? (i := 187) (by decide +kernel))
set_option maxRecDepth 20000 in
theorem tw_772 : (.instanceMethod yX0_init : Cond) ∈ lw_tbl := lf_0 _ (List.mem_of_getElem? (i := 163) (by decide +kernel))
set_option maxRecDepth 20000 in
theorem tw_773 : (.methodLink RX11 48 yX0_init : Cond) ∈ lw_tbl := lf_0 _ (List.mem_of_getElem? (i := 162) (by decide +kernel))
set_option maxRecDepth 20000 in
theorem tw_774 : (.instantiable RX0 5 : Cond) ∈ lw_tbl := lf_0 _ (List.mem_of_getElem? (i := 161) (by decide +kernel))
set_option maxRecDepth 20000 in
theorem tw_775 : (.classLink RX11 46 RX0 : Cond) ∈ lw_tbl := lf_0 _ (List.mem_of_getElem? (i := 160) (by decide +kernel))
set_option maxRecDepth 20000 in
theorem tw_776 : (.instanceMethod yX8_init : Cond) ∈ lw_tbl := lf_0 _ (List.mem_of_getElem? (i := 144) (by decide +kernel))
set_option maxRecDepth 20000 in
theorem tw_777 : (.methodLink RX11 41 yX8_init : Cond) ∈ lw_tbl := lf_0 _ (List.mem_of_getElem? (i := 143) (by decide +kernel))
set_option maxRecDepth 20000 in
theorem tw_778 : (.instantiable RX8 3 : Cond) ∈ lw_tbl := lf_0 _ (List.mem_of_getElem? (i := 142) (by decide +kernel))
set_option maxRecDepth 20000 in
theorem tw_779 : (.classLink RX11 39 RX8 : Cond) ∈ lw_tbl := lf_0 _ (List.mem_of_getElem? (i := 141) (by decide +kernel))
set_option maxRecDepth 20000 in
theorem tw_780 : (.instanceMethod yX4_init : Cond) ∈ lw_tbl := lf_0 _ (List.mem_of_getElem? (i := 111) (by decide +kernel))
set_option maxRecDepth 20000 in
theorem tw_781 : (.methodLink RX11 34 yX4_init : Cond) ∈ lw_tbl := lf_0 _ (List.mem_of_getElem? (i := 110) (by decide +kernel))
set_option maxRecDepth 20000 in
theorem tw_782 : (.instantiable RX4 8 : Cond) ∈ lw_tbl := lf_0 _ (List.mem_of_getElem? (i := 109) (by decide +kernel))
set_option maxRecDepth 20000 in
theorem tw_783 : (.classLink RX11 32 RX4 : Cond) ∈ lw_tbl := lf_0 _ (List.mem_of_getElem? (i := 108) (by decide +kernel))
set_option maxRecDepth 20000 in
theorem tw_784 : (.instanceMethod yX5_init : Cond) ∈ lw_tbl := lf_0 _ (List.mem_of_getElem? (i := 69) (by decide +kernel))
set_option maxRecDepth 20000 in
theorem tw_785 : (.methodLink RX11 25 yX5_init : Cond) ∈ lw_tbl := lf_0 _ (List.mem_of_getElem? (i := 68) (by decide +kernel))
set_option maxRecDepth 20000 in
theorem tw_786 : (.instantiable RX5 11 : Cond) ∈ lw_tbl := lf_0 _ (List.mem_of_getElem? (i := 67) (by decide +kernel))
set_option maxRecDepth 20000 in
theorem tw_787 : (.classLink RX11 23 RX5 : Cond) ∈ lw_tbl := lf_0 _ (List.mem_of_getElem? (i := 66) (by decide +kernel))
set_option maxRecDepth 20000 in
theorem tw_788 : (.instanceMethod yX10_init : Cond) ∈ lw_tbl := lf_0 _ (List.mem_of_getElem? (i := 48) (by decide +kernel))
set_option maxRecDepth 20000 in
theorem tw_789 : (.methodLink RX11 18 yX10_init : Cond) ∈ lw_tbl := lf_0 _ (List.mem_of_getElem? (i := 47) (by decide +kernel))
set_option maxRecDepth 20000 in
theorem tw_790 : (.instantiable RX10 3 : Cond) ∈ lw_tbl := lf_0 _ (List.mem_of_getElem? (i := 46) (by decide +kernel))
set_option maxRecDepth 20000 in
theorem tw_791 : (.classLink RX11 16 RX10 : Cond) ∈ lw_tbl := lf_0 _ (List.mem_of_getElem? (i := 45) (by decide +kernel))
set_option maxRecDepth 20000 in
theorem tw_792 : (.instanceMethod yX9_init : Cond) ∈ lw_tbl := lf_0 _ (List.mem_of_getElem? (i := 32) (by decide +kernel))
set_option maxRecDepth 20000 in
theorem tw_793 : (.methodLink RX11 9 yX9_init : Cond) ∈ lw_tbl := lf_0 _ (List.mem_of_getElem? (i := 31) (by decide +kernel))
set_option maxRecDepth 20000 in
theorem tw_794 : (.instantiable RX9 2 : Cond) ∈ lw_tbl := lf_0 _ (List.mem_of_getElem? (i := 30) (by decide +kernel))
set_option maxRecDepth 20000 in
theorem tw_795 : (.classLink RX11 7 RX9 : Cond) ∈ lw_tbl := lf_0 _ (List.mem_of_getElem? (i := 29) (by decide +kernel))
set_option maxRecDepth 20000 in
theorem tw_796 : (.methodLink RX11 1 objectInit : Cond) ∈ lw_tbl := lf_0 _ (List.mem_of_getElem? (i := 26) (by decide +kernel))
set_option maxRecDepth 20000 in
theorem tw_797 : (.code yX11_init cX11_init 1 none : Cond) ∈ lw_tbl := lf_0 _ (List.mem_of_getElem? (i := 25) rfl)
set_option maxRecDepth 20000 in
theorem tw_798 : (.constantLong RX12 214 (27) : Cond) ∈ lw_tbl := lf_4 _ (List.mem_of_getElem? (i := 54) (by decide +kernel))
set_option maxRecDepth 20000 in
theorem tw_799 : (.code yX12_more cX12_more 3 (some .long) : Cond) ∈ lw_tbl := lf_4 _ (List.mem_of_getElem? (i := 53) rfl)
theorem tb_m_more : ∀ w ∈ zs_m_more, w ∈ lw_tbl := List.forall_mem_cons.mpr ⟨tw_799, List.forall_mem_append.mpr ⟨List.forall_mem_cons.mpr ⟨tw_798, fun _ h => absurd h List.not_mem_nil⟩, fun _ h => absurd h List.not_mem_nil⟩⟩
set_option maxRecDepth 20000 in
theorem tw_800 : (.static yX12_more : Cond) ∈ lw_tbl := lf_4 _ (List.mem_of_getElem? (i := 52) (by decide +kernel))
set_option maxRecDepth 20000 in
theorem tw_801 : (.methodLink RX12 216 yX12_more : Cond) ∈ lw_tbl := lf_4 _ (List.mem_of_getElem? (i := 51) (by decide +kernel))
set_option maxRecDepth 20000 in
theorem tw_802 : (.code yX12_word cX12_word 8 (some .long) : Cond) ∈ lw_tbl := lf_4 _ (List.mem_of_getElem? (i := 50) rfl)
theorem tb_m_word : ∀ w ∈ zs_m_word, w ∈ lw_tbl := List.forall_mem_cons.mpr ⟨tw_802, List.forall_mem_append.mpr ⟨List.forall_mem_cons.mpr ⟨tw_801, List.forall_mem_cons.mpr ⟨tw_800, List.forall_mem_cons.mpr ⟨tw_198, fun _ h => absurd h List.not_mem_nil⟩⟩⟩, List.forall_mem_append.mpr ⟨tb_m_more, fun _ h => absurd h List.not_mem_nil⟩⟩⟩
set_option maxRecDepth 20000 in
theorem tw_803 : (.static yX12_word : Cond) ∈ lw_tbl := lf_4 _ (List.mem_of_getElem? (i := 49) (by decide +kernel))
set_option maxRecDepth 20000 in
theorem tw_804 : (.methodLink RX12 197 yX12_word : Cond) ∈ lw_tbl := lf_4 _ (List.mem_of_getElem? (i := 48) (by decide +kernel))
set_option maxRecDepth 20000 in
theorem tw_805 : (.fieldLink RX12 194 "LanternHouseModel" "pile" "[I" : Cond) ∈ lw_tbl := lf_4 _ (List.mem_of_getElem? (i := 140) (by decide +kernel))
set_option maxRecDepth 20000 in
theorem tw_806 : (.fieldLink RX12 191 "LanternHouseModel" "isShown" "[Z" : Cond) ∈ lw_tbl := lf_4 _ (List.mem_of_getElem? (i := 138) (by decide +kernel))
set_option maxRecDepth 20000 in
theorem tw_807 : (.fieldLink RX12 188 "LanternHouseModel" "begins" "[I" : Cond) ∈ lw_tbl := lf_4 _ (List.mem_of_getElem? (i := 137) (by decide +kernel))
set_option maxRecDepth 20000 in
theorem tw_808 : (.fieldLink RX12 185 "LanternHouseModel" "variables" "[I" : Cond) ∈ lw_tbl := lf_4 _ (List.mem_of_getElem? (i := 136) (by decide +kernel))
set_option maxRecDepth 20000 in
theorem tw_809 : (.fieldLink RX12 170 "LanternHouseModel" "inShow" "[Z" : Cond) ∈ lw_tbl := lf_4 _ (List.mem_of_getElem? (i := 127) (by decide +kernel))
set_option maxRecDepth 20000 in
theorem tw_810 : (.fieldLink RX12 167 "LanternHouseModel" "plateFree" "[I" : Cond) ∈ lw_tbl := lf_4 _ (List.mem_of_getElem? (i := 126) (by decide +kernel))
set_option maxRecDepth 20000 in
theorem tw_811 : (.fieldLink RX12 164 "LanternHouseModel" "plateAt" "[I" : Cond) ∈ lw_tbl := lf_4 _ (List.mem_of_getElem? (i := 125) (by decide +kernel))
set_option maxRecDepth 20000 in
theorem tw_812 : (.fieldLink RX12 149 "LanternHouseModel" "worth" "[I" : Cond) ∈ lw_tbl := lf_4 _ (List.mem_of_getElem? (i := 118) (by decide +kernel))
set_option maxRecDepth 20000 in
theorem tw_813 : (.fieldLink RX12 146 "LanternHouseModel" "gas" "[I" : Cond) ∈ lw_tbl := lf_4 _ (List.mem_of_getElem? (i := 117) (by decide +kernel))
set_option maxRecDepth 20000 in
theorem tw_814 : (.fieldLink RX12 143 "LanternHouseModel" "lecture" "[I" : Cond) ∈ lw_tbl := lf_4 _ (List.mem_of_getElem? (i := 116) (by decide +kernel))
set_option maxRecDepth 20000 in
theorem tw_815 : (.fieldLink RX12 140 "LanternHouseModel" "where" "[I" : Cond) ∈ lw_tbl := lf_4 _ (List.mem_of_getElem? (i := 115) (by decide +kernel))
set_option maxRecDepth 20000 in
theorem tw_816 : (.fieldLink RX12 137 "LanternHouseModel" "night" "[I" : Cond) ∈ lw_tbl := lf_4 _ (List.mem_of_getElem? (i := 114) (by decide +kernel))
set_option maxRecDepth 20000 in
theorem tw_817 : (.fieldLink RX12 125 "LanternHouseModel" "factAt" "[I" : Cond) ∈ lw_tbl := lf_4 _ (List.mem_of_getElem? (i := 109) (by decide +kernel))
set_option maxRecDepth 20000 in
theorem tw_818 : (.fieldLink RX12 122 "LanternHouseModel" "factOf" "[I" : Cond) ∈ lw_tbl := lf_4 _ (List.mem_of_getElem? (i := 108) (by decide +kernel))
set_option maxRecDepth 20000 in
theorem tw_819 : (.fieldLink RX12 119 "LanternHouseModel" "factSort" "[I" : Cond) ∈ lw_tbl := lf_4 _ (List.mem_of_getElem? (i := 107) (by decide +kernel))
set_option maxRecDepth 20000 in
theorem tw_820 : (.fieldLink RX12 113 "LanternHouseModel" "trainTakes" "[I" : Cond) ∈ lw_tbl := lf_4 _ (List.mem_of_getElem? (i := 102) (by decide +kernel))
set_option maxRecDepth 20000 in
theorem tw_821 : (.fieldLink RX12 110 "LanternHouseModel" "trainHour" "[I" : Cond) ∈ lw_tbl := lf_4 _ (List.mem_of_getElem? (i := 101) (by decide +kernel))
set_option maxRecDepth 20000 in
theorem tw_822 : (.fieldLink RX12 107 "LanternHouseModel" "trainTo" "[I" : Cond) ∈ lw_tbl := lf_4 _ (List.mem_of_getElem? (i := 100) (by decide +kernel))
set_option maxRecDepth 20000 in
theorem tw_823 : (.fieldLink RX12 104 "LanternHouseModel" "trainFrom" "[I" : Cond) ∈ lw_tbl := lf_4 _ (List.mem_of_getElem? (i := 99) (by decide +kernel))
set_option maxRecDepth 20000 in
theorem tw_824 : (.fieldLink RX12 101 "LanternHouseModel" "waits" "[I" : Cond) ∈ lw_tbl := lf_4 _ (List.mem_of_getElem? (i := 95) (by decide +kernel))
set_option maxRecDepth 20000 in
theorem tw_825 : (.fieldLink RX12 98 "LanternHouseModel" "codeInt" "[I" : Cond) ∈ lw_tbl := lf_4 _ (List.mem_of_getElem? (i := 94) (by decide +kernel))
set_option maxRecDepth 20000 in
theorem tw_826 : (.fieldLink RX12 95 "LanternHouseModel" "code" "[I" : Cond) ∈ lw_tbl := lf_4 _ (List.mem_of_getElem? (i := 93) (by decide +kernel))
set_option maxRecDepth 20000 in
theorem tw_827 : (.fieldLink RX12 92 "LanternHouseModel" "relEnd" "[I" : Cond) ∈ lw_tbl := lf_4 _ (List.mem_of_getElem? (i := 91) (by decide +kernel))
set_option maxRecDepth 20000 in
theorem tw_828 : (.fieldLink RX12 89 "LanternHouseModel" "relRight" "[I" : Cond) ∈ lw_tbl := lf_4 _ (List.mem_of_getElem? (i := 90) (by decide +kernel))
set_option maxRecDepth 20000 in
theorem tw_829 : (.fieldLink RX12 86 "LanternHouseModel" "relLeft" "[I" : Cond) ∈ lw_tbl := lf_4 _ (List.mem_of_getElem? (i := 89) (by decide +kernel))
set_option maxRecDepth 20000 in
theorem tw_830 : (.fieldLink RX12 83 "LanternHouseModel" "relSort" "[I" : Cond) ∈ lw_tbl := lf_4 _ (List.mem_of_getElem? (i := 88) (by decide +kernel))
set_option maxRecDepth 20000 in
theorem tw_831 : (.fieldLink RX12 77 "LanternHouseModel" "hireLast" "[I" : Cond) ∈ lw_tbl := lf_4 _ (List.mem_of_getElem? (i := 86) (by decide +kernel))
set_option maxRecDepth 20000 in
theorem tw_832 : (.fieldLink RX12 74 "LanternHouseModel" "hireFirst" "[I" : Cond) ∈ lw_tbl := lf_4 _ (List.mem_of_getElem? (i := 85) (by decide +kernel))
set_option maxRecDepth 20000 in
theorem tw_833 : (.fieldLink RX12 71 "LanternHouseModel" "hireTo" "[I" : Cond) ∈ lw_tbl := lf_4 _ (List.mem_of_getElem? (i := 84) (by decide +kernel))
set_option maxRecDepth 20000 in
theorem tw_834 : (.fieldLink RX12 68 "LanternHouseModel" "hireFrom" "[I" : Cond) ∈ lw_tbl := lf_4 _ (List.mem_of_getElem? (i := 83) (by decide +kernel))
set_option maxRecDepth 20000 in
theorem tw_835 : (.fieldLink RX12 65 "LanternHouseModel" "cueFade" "[I" : Cond) ∈ lw_tbl := lf_4 _ (List.mem_of_getElem? (i := 82) (by decide +kernel))
set_option maxRecDepth 20000 in
theorem tw_836 : (.fieldLink RX12 62 "LanternHouseModel" "cueFor" "[I" : Cond) ∈ lw_tbl := lf_4 _ (List.mem_of_getElem? (i := 81) (by decide +kernel))
set_option maxRecDepth 20000 in
theorem tw_837 : (.fieldLink RX12 59 "LanternHouseModel" "cueKind" "[I" : Cond) ∈ lw_tbl := lf_4 _ (List.mem_of_getElem? (i := 80) (by decide +kernel))
set_option maxRecDepth 20000 in
theorem tw_838 : (.fieldLink RX12 56 "LanternHouseModel" "cueKinds" "[I" : Cond) ∈ lw_tbl := lf_4 _ (List.mem_of_getElem? (i := 79) (by decide +kernel))
set_option maxRecDepth 20000 in
theorem tw_839 : (.fieldLink RX12 52 "LanternHouseModel" "cueMust" "[Z" : Cond) ∈ lw_tbl := lf_4 _ (List.mem_of_getElem? (i := 78) (by decide +kernel))
set_option maxRecDepth 20000 in
theorem tw_840 : (.fieldLink RX12 49 "LanternHouseModel" "hires" "[I" : Cond) ∈ lw_tbl := lf_4 _ (List.mem_of_getElem? (i := 77) (by decide +kernel))
set_option maxRecDepth 20000 in
theorem tw_841 : (.fieldLink RX12 46 "LanternHouseModel" "cues" "[I" : Cond) ∈ lw_tbl := lf_4 _ (List.mem_of_getElem? (i := 76) (by decide +kernel))
set_option maxRecDepth 20000 in
theorem tw_842 : (.fieldLink RX12 43 "LanternHouseModel" "lectName" "[J" : Cond) ∈ lw_tbl := lf_4 _ (List.mem_of_getElem? (i := 75) (by decide +kernel))
set_option maxRecDepth 20000 in
theorem tw_843 : (.fieldLink RX12 34 "LanternHouseModel" "keys" "[J" : Cond) ∈ lw_tbl := lf_4 _ (List.mem_of_getElem? (i := 63) (by decide +kernel))
set_option maxRecDepth 20000 in
theorem tw_844 : (.fieldLink RX12 17 "LanternHouseModel" "text" "[B" : Cond) ∈ lw_tbl := lf_4 _ (List.mem_of_getElem? (i := 57) (by decide +kernel))
set_option maxRecDepth 20000 in
theorem tw_845 : (.methodLink RX12 7 objectInit : Cond) ∈ lw_tbl := lf_4 _ (List.mem_of_getElem? (i := 47) (by decide +kernel))
set_option maxRecDepth 20000 in
theorem tw_846 : (.code yX12_init cX12_init 1 none : Cond) ∈ lw_tbl := lf_4 _ (List.mem_of_getElem? (i := 46) rfl)
set_option maxRecDepth 20000 in
theorem tw_847 : (.methodLink RL 12 yX12_init : Cond) ∈ lw_tbl := lf_4 _ (List.mem_of_getElem? (i := 44) (by decide +kernel))
set_option maxRecDepth 20000 in
theorem tw_848 : (.methodLink RL 9 yX11_init : Cond) ∈ lw_tbl := lf_0 _ (List.mem_of_getElem? (i := 23) (by decide +kernel))
set_option maxRecDepth 20000 in
theorem tw_849 : (.instanceMethod yX12_init : Cond) ∈ lw_tbl := lf_4 _ (List.mem_of_getElem? (i := 45) (by decide +kernel))
set_option maxRecDepth 20000 in
theorem tw_850 : (.instanceMethod yX11_init : Cond) ∈ lw_tbl := lf_0 _ (List.mem_of_getElem? (i := 24) (by decide +kernel))
set_option maxRecDepth 20000 in
theorem tw_851 : (.arrayOver (.array .int) : Cond) ∈ lw_tbl := lf_1 _ (List.mem_of_getElem? (i := 72) (by decide +kernel))
set_option maxRecDepth 20000 in
theorem tw_852 : (.classLink RL 10 RX12 : Cond) ∈ lw_tbl := lf_4 _ (List.mem_of_getElem? (i := 42) (by decide +kernel))
set_option maxRecDepth 20000 in
theorem tw_853 : (.instantiable RX12 87 : Cond) ∈ lw_tbl := lf_4 _ (List.mem_of_getElem? (i := 43) (by decide +kernel))
set_option maxRecDepth 20000 in
theorem tw_854 : (.instantiable RX11 13 : Cond) ∈ lw_tbl := lf_0 _ (List.mem_of_getElem? (i := 22) (by decide +kernel))
set_option maxRecDepth 20000 in
theorem tw_855 : (.classLink RL 7 RX11 : Cond) ∈ lw_tbl := lf_0 _ (List.mem_of_getElem? (i := 21) (by decide +kernel))
