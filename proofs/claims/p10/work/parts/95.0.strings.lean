def tmS (i : Nat) : Term := .string (strT.getD i ("", 0, "")).1 (strT.getD i ("", 0, "")).2.1
theorem fm_in2 {ws T : List Cond} (ps : List Nat) (hp : ws = ps.filterMap (fun i => T[i]?)) : ∀ w ∈ ws, w ∈ T := by
  intro w hw
  rw [hp] at hw
  obtain ⟨i, -, hi⟩ := List.mem_filterMap.mp hw
  exact List.mem_of_getElem? hi
set_option maxRecDepth 100000 in
theorem sm_exL : (List.range 14).map (fun i => Cond.exactly (tmS i) "java/lang/String") = ([29, 38, 50, 60, 71, 83, 94, 110, 126, 142, 158, 175, 195, 216] : List Nat).filterMap (fun i => (flatC (Jvm.Cond.and given_1 narrow_1))[i]?) := by decide +kernel
theorem sm_ex : ∀ i, i < 14 → Cond.exactly (tmS i) "java/lang/String" ∈ flatC (Jvm.Cond.and given_1 narrow_1) := fun i hi => fm_in2 _ sm_exL _ (List.mem_map.mpr ⟨i, List.mem_range.mpr hi, rfl⟩)
set_option maxRecDepth 100000 in
theorem sm_coL : (List.range 14).map (fun i => Cond.eq (.field (tmS i) "java/lang/String" "coder" "B") (.int 0)) = ([30, 39, 51, 61, 72, 84, 95, 111, 127, 143, 159, 176, 196, 217] : List Nat).filterMap (fun i => (flatC (Jvm.Cond.and given_1 narrow_1))[i]?) := by decide +kernel
theorem sm_co : ∀ i, i < 14 → Cond.eq (.field (tmS i) "java/lang/String" "coder" "B") (.int 0) ∈ flatC (Jvm.Cond.and given_1 narrow_1) := fun i hi => fm_in2 _ sm_coL _ (List.mem_map.mpr ⟨i, List.mem_range.mpr hi, rfl⟩)
set_option maxRecDepth 100000 in
theorem sm_arL : (List.range 14).map (fun i => Cond.arrayOf (.field (tmS i) "java/lang/String" "value" "[B") .byte) = ([31, 40, 52, 62, 73, 85, 96, 112, 128, 144, 160, 177, 197, 218] : List Nat).filterMap (fun i => (flatC (Jvm.Cond.and given_1 narrow_1))[i]?) := by decide +kernel
theorem sm_ar : ∀ i, i < 14 → Cond.arrayOf (.field (tmS i) "java/lang/String" "value" "[B") .byte ∈ flatC (Jvm.Cond.and given_1 narrow_1) := fun i hi => fm_in2 _ sm_arL _ (List.mem_map.mpr ⟨i, List.mem_range.mpr hi, rfl⟩)
set_option maxRecDepth 100000 in
theorem sm_leL : (List.range 14).map (fun i => Cond.eq (.length (.field (tmS i) "java/lang/String" "value" "[B")) (.int (Int32.ofNat (strL.getD i 0)))) = ([32, 41, 53, 63, 74, 86, 97, 113, 129, 145, 161, 178, 198, 219] : List Nat).filterMap (fun i => (flatC (Jvm.Cond.and given_1 narrow_1))[i]?) := by decide +kernel
theorem sm_le : ∀ i, i < 14 → Cond.eq (.length (.field (tmS i) "java/lang/String" "value" "[B")) (.int (Int32.ofNat (strL.getD i 0))) ∈ flatC (Jvm.Cond.and given_1 narrow_1) := fun i hi => fm_in2 _ sm_leL _ (List.mem_map.mpr ⟨i, List.mem_range.mpr hi, rfl⟩)
set_option maxRecDepth 100000 in
theorem sm_elL : (List.range 14).flatMap (fun i => (List.range (strL.getD i 0)).map (fun j => Cond.eq (.elem (.field (tmS i) "java/lang/String" "value" "[B") (.int (Int32.ofNat j))) (.int ((strB.getD i []).getD j 0)))) = ([33, 34, 35, 36, 37, 42, 43, 44, 45, 46, 47, 48, 54, 55, 56, 57, 64, 65, 66, 67, 75, 76, 77, 78, 87, 88, 98, 99, 100, 101, 102, 103, 114, 115, 116, 117, 118, 130, 131, 132, 133, 146, 147, 148, 162, 163, 164, 179, 180, 181, 182, 183, 199, 200, 201, 202, 203, 220, 221, 222, 223, 224, 225, 226, 227, 228, 229, 230, 231, 232, 233, 234, 235, 236, 237, 238, 239, 240, 241, 242, 243, 244, 245, 246, 247, 248, 249, 250, 251, 252, 253, 254, 255, 256, 257, 258, 259, 260, 261, 262, 263, 264, 265, 266, 267, 268, 269, 270, 271, 272, 273, 274, 275, 276, 277, 278, 279, 280, 281, 282, 283, 284, 285, 286, 287, 288, 289, 290] : List Nat).filterMap (fun i => (flatC (Jvm.Cond.and given_1 narrow_1))[i]?) := by decide +kernel
theorem sm_el : ∀ i, i < 14 → ∀ j, j < strL.getD i 0 → Cond.eq (.elem (.field (tmS i) "java/lang/String" "value" "[B") (.int (Int32.ofNat j))) (.int ((strB.getD i []).getD j 0)) ∈ flatC (Jvm.Cond.and given_1 narrow_1) := fun i hi j hj => fm_in2 _ sm_elL _ (List.mem_flatMap.mpr ⟨i, List.mem_range.mpr hi, List.mem_map.mpr ⟨j, List.mem_range.mpr hj, rfl⟩⟩)
set_option maxRecDepth 100000 in
theorem sm_neL : (List.range 14).flatMap (fun j => (List.range j).map (fun i => Cond.not (Cond.eq (tmS i) (tmS j)))) = ([49, 58, 59, 68, 69, 70, 79, 80, 81, 82, 89, 90, 91, 92, 93, 104, 105, 106, 107, 108, 109, 119, 120, 121, 122, 123, 124, 125, 134, 135, 136, 137, 138, 139, 140, 141, 149, 150, 151, 152, 153, 154, 155, 156, 157, 165, 166, 167, 168, 169, 170, 171, 172, 173, 174, 184, 185, 186, 187, 188, 189, 190, 191, 192, 193, 194, 204, 205, 206, 207, 208, 209, 210, 211, 212, 213, 214, 215, 291, 292, 293, 294, 295, 296, 297, 298, 299, 300, 301, 302, 303] : List Nat).filterMap (fun i => (flatC (Jvm.Cond.and given_1 narrow_1))[i]?) := by decide +kernel
theorem sm_neA (i j : Nat) (h1 : i < j) (h2 : j < 14) : Cond.not (Cond.eq (tmS i) (tmS j)) ∈ flatC (Jvm.Cond.and given_1 narrow_1) := fm_in2 _ sm_neL _ (List.mem_flatMap.mpr ⟨j, List.mem_range.mpr h2, List.mem_map.mpr ⟨i, List.mem_range.mpr h1, rfl⟩⟩)
theorem sm_ne (i : Nat) (h1 : i < 14) (j : Nat) (h2 : j < 14) (h3 : i ≠ j) : Cond.not (Cond.eq (tmS i) (tmS j)) ∈ flatC (Jvm.Cond.and given_1 narrow_1) ∨ Cond.not (Cond.eq (tmS j) (tmS i)) ∈ flatC (Jvm.Cond.and given_1 narrow_1) := (Nat.lt_or_gt_of_ne h3).imp (fun h => sm_neA i j h h2) (fun h => sm_neA j i h h1)
set_option maxRecDepth 100000 in
theorem sm_C : Cond.eq (.static "java/lang/String" "COMPACT_STRINGS" "Z") (.int 1) ∈ flatC (Jvm.Cond.and given_1 narrow_1) := List.mem_of_getElem? (i := 4) (by decide +kernel)
set_option maxRecDepth 100000 in
theorem sm_P : Cond.isRef (.static "jdk/internal/util/Preconditions" "SIOOBE_FORMATTER" "Ljava/util/function/BiFunction;") ∈ flatC (Jvm.Cond.and given_1 narrow_1) := List.mem_of_getElem? (i := 5) (by decide +kernel)
set_option maxRecDepth 100000 in
theorem ls_C : Cond.laysStatic "java/lang/String" "COMPACT_STRINGS" "Z" ∈ lw_tbl := List.mem_of_getElem? (i := 567) (by decide +kernel)
set_option maxRecDepth 100000 in
theorem ls_P : Cond.laysStatic "jdk/internal/util/Preconditions" "SIOOBE_FORMATTER" "Ljava/util/function/BiFunction;" ∈ lw_tbl := List.mem_of_getElem? (i := 583) (by decide +kernel)
set_option maxRecDepth 100000 in
theorem in_C : Cond.initialized "java/lang/String" ∈ lw_tbl := List.mem_of_getElem? (i := 134) (by decide +kernel)
set_option maxRecDepth 100000 in
theorem in_P : Cond.initialized "jdk/internal/util/Preconditions" ∈ lw_tbl := List.mem_of_getElem? (i := 136) (by decide +kernel)
set_option maxRecDepth 100000 in
theorem sr_all : (List.range 14).map (fun i => Cond.stringRef (strT.getD i ("", 0, "")).1 (strT.getD i ("", 0, "")).2.1 (strT.getD i ("", 0, "")).2.2) = ([553, 618, 623, 624, 629, 634, 635, 636, 637, 638, 639, 647, 648, 1288] : List Nat).filterMap (fun i => lw_tbl[i]?) := by decide +kernel
theorem sr_in : ∀ i, i < 14 → Cond.stringRef (strT.getD i ("", 0, "")).1 (strT.getD i ("", 0, "")).2.1 (strT.getD i ("", 0, "")).2.2 ∈ lw_tbl := fun i hi => fm_in _ sr_all _ (List.mem_map.mpr ⟨i, List.mem_range.mpr hi, rfl⟩)
theorem vk_Scong {N : Nat} {len : List Nat} {byt : List (List Int32)} {adK adV aK aV : Nat → Nat} {A : Nat → Prop} {U : State} {H : Heap} (h1 : ∀ i, i < N → aK i = adK i) (h2 : ∀ i, i < N → aV i = adV i) (h : vk_S N len byt adK adV A U H) : vk_S N len byt aK aV A U H := ⟨fun i hi => by rw [h1 i hi, h2 i hi]; exact h.1 i hi, fun i j hi hj e => h.2 i j hi hj (by rw [← h1 i hi, ← h1 j hj]; exact e)⟩
set_option maxRecDepth 100000 in
theorem ao_P : Cond.arrayOver (.object RX3) ∈ lw_tbl := List.mem_of_getElem? (i := 285) (by decide +kernel)
set_option maxRecDepth 100000 in
theorem ao_R : Cond.arrayOver (.object RX4) ∈ lw_tbl := List.mem_of_getElem? (i := 287) (by decide +kernel)
