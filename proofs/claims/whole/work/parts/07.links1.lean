/-! Places of the tables' words: fields, kinds, calls; the methods with their room. -/
theorem mm_inps {ws : List Jvm.Cond} (ps : List Nat) (hp : ws = ps.filterMap (fun i => lw_tbl[i]?)) (h : ws.all goodWord = true) : ∀ w ∈ ws, w ∈ lw_tbl.filter goodWord := by
  intro w hw
  have h1 := List.all_eq_true.mp h w hw
  rw [hp] at hw
  obtain ⟨i, -, hi⟩ := List.mem_filterMap.mp hw
  exact List.mem_filter.mpr ⟨List.mem_of_getElem? hi, h1⟩
theorem cf_0 : mm_cf ("SnapshotFiles$Block", tn_0, 10) := ⟨mm_inps [127, 129, 131, 133, 135, 137, 139, 141, 143, 145] (by decide +kernel) (by decide +kernel), ⟨ty_0, by decide +kernel⟩, by decide +kernel⟩
theorem cf_1 : mm_cf ("SnapshotFiles$Connection", tn_1, 2) := ⟨mm_inps [267, 269] (by decide +kernel) (by decide +kernel), ⟨ty_1, by decide +kernel⟩, by decide +kernel⟩
theorem cf_2 : mm_cf ("SnapshotFiles$Fid", tn_2, 7) := ⟨mm_inps [209, 211, 213, 215, 217, 219, 221] (by decide +kernel) (by decide +kernel), ⟨ty_2, by decide +kernel⟩, by decide +kernel⟩
theorem cf_3 : mm_cf ("SnapshotFiles$Members", tn_3, 1) := ⟨mm_inps [175] (by decide +kernel) (by decide +kernel), ⟨ty_3, by decide +kernel⟩, by decide +kernel⟩
theorem cf_4 : mm_cf ("SnapshotFiles$Request", tn_4, 4) := ⟨mm_inps [255, 257, 259, 261] (by decide +kernel) (by decide +kernel), ⟨ty_4, by decide +kernel⟩, by decide +kernel⟩
theorem cf_5 : mm_cf ("SnapshotFiles$Row", tn_5, 2) := ⟨mm_inps [241, 243] (by decide +kernel) (by decide +kernel), ⟨ty_5, by decide +kernel⟩, by decide +kernel⟩
theorem cf_6 : mm_cf ("SnapshotFiles$Store", tn_6, 3) := ⟨mm_inps [161, 163, 165] (by decide +kernel) (by decide +kernel), ⟨ty_6, by decide +kernel⟩, by decide +kernel⟩
theorem cf_7 : mm_cf ("SnapshotFiles$Wish", tn_7, 4) := ⟨mm_inps [288, 290, 292, 294] (by decide +kernel) (by decide +kernel), ⟨ty_7, by decide +kernel⟩, by decide +kernel⟩
theorem cf_8 : mm_cf ("SnapshotFiles", tn_8, 6) := ⟨mm_inps [303, 305, 307, 309, 311, 313] (by decide +kernel) (by decide +kernel), ⟨ty_8, by decide +kernel⟩, by decide +kernel⟩
theorem cf_9 : mm_cf ("SnapshotFilesModel", tn_9, 30) := ⟨mm_inps [767, 769, 771, 773, 775, 777, 779, 781, 783, 785, 787, 789, 791, 793, 795, 797, 799, 801, 803, 805, 807, 809, 811, 813, 815, 817, 819, 821, 823, 825] (by decide +kernel) (by decide +kernel), ⟨ty_9, by decide +kernel⟩, by decide +kernel⟩
theorem mm_cfs : ∀ (ci : Nat) (q : vw_C), vwCl[ci]? = some q → mm_cf q := by
  intro ci q h
  have hm := List.mem_of_getElem? h
  simp only [vwCl, List.mem_cons, List.not_mem_nil, or_false] at hm
  rcases hm with rfl | rfl | rfl | rfl | rfl | rfl | rfl | rfl | rfl | rfl
  · exact cf_0
  · exact cf_1
  · exact cf_2
  · exact cf_3
  · exact cf_4
  · exact cf_5
  · exact cf_6
  · exact cf_7
  · exact cf_8
  · exact cf_9
theorem fl_X_12 : mm_fl "SnapshotFiles" 12 8 0 := ⟨_, rfl, by decide, Or.inl (List.mem_of_getElem? (i := 297) (by decide +kernel))⟩
theorem ff_X_12 : mm_fF "SnapshotFiles" 12 8 0 (.object "SnapshotFiles$Store") := ⟨_, rfl, by decide, (List.mem_of_getElem? (i := 297) (by decide +kernel)), by decide +kernel, rfl, rfl⟩
theorem fl_X_19 : mm_fl "SnapshotFiles" 19 8 1 := ⟨_, rfl, by decide, Or.inl (List.mem_of_getElem? (i := 298) (by decide +kernel))⟩
theorem ff_X_19 : mm_fF "SnapshotFiles" 19 8 1 (.object "SnapshotFiles$Members") := ⟨_, rfl, by decide, (List.mem_of_getElem? (i := 298) (by decide +kernel)), by decide +kernel, rfl, rfl⟩
theorem fl_X_25 : mm_fl "SnapshotFiles" 25 8 2 := ⟨_, rfl, by decide, Or.inl (List.mem_of_getElem? (i := 299) (by decide +kernel))⟩
theorem ff_X_25 : mm_fF "SnapshotFiles" 25 8 2 (.array (.object "SnapshotFiles$Connection")) := ⟨_, rfl, by decide, (List.mem_of_getElem? (i := 299) (by decide +kernel)), by decide +kernel, rfl, rfl⟩
theorem fl_X_35 : mm_fl "SnapshotFiles" 35 8 3 := ⟨_, rfl, by decide, Or.inl (List.mem_of_getElem? (i := 300) (by decide +kernel))⟩
theorem ff_X_35 : mm_fF "SnapshotFiles" 35 8 3 (.object "SnapshotFiles$Row") := ⟨_, rfl, by decide, (List.mem_of_getElem? (i := 300) (by decide +kernel)), by decide +kernel, rfl, rfl⟩
theorem fl_X_39 : mm_fl "SnapshotFiles" 39 8 4 := ⟨_, rfl, by decide, Or.inl (List.mem_of_getElem? (i := 301) (by decide +kernel))⟩
theorem ff_X_39 : mm_fF "SnapshotFiles" 39 8 4 (.object "SnapshotFiles$Row") := ⟨_, rfl, by decide, (List.mem_of_getElem? (i := 301) (by decide +kernel)), by decide +kernel, rfl, rfl⟩
theorem fl_X_45 : mm_fl "SnapshotFiles" 45 8 5 := ⟨_, rfl, by decide, Or.inl (List.mem_of_getElem? (i := 302) (by decide +kernel))⟩
theorem ff_X_45 : mm_fF "SnapshotFiles" 45 8 5 (.object "SnapshotFiles$Wish") := ⟨_, rfl, by decide, (List.mem_of_getElem? (i := 302) (by decide +kernel)), by decide +kernel, rfl, rfl⟩
theorem fl_S_11 : mm_fl "SnapshotFiles$Store" 11 6 0 := ⟨_, rfl, by decide, Or.inl (List.mem_of_getElem? (i := 157) (by decide +kernel))⟩
theorem ff_S_11 : mm_fF "SnapshotFiles$Store" 11 6 0 (.array (.object "SnapshotFiles$Block")) := ⟨_, rfl, by decide, (List.mem_of_getElem? (i := 157) (by decide +kernel)), by decide +kernel, rfl, rfl⟩
theorem fl_B_9 : mm_fl "SnapshotFiles$Block" 9 0 0 := ⟨_, rfl, by decide, Or.inl (List.mem_of_getElem? (i := 95) (by decide +kernel))⟩
theorem ff_B_9 : mm_fF "SnapshotFiles$Block" 9 0 0 (.array .int) := ⟨_, rfl, by decide, (List.mem_of_getElem? (i := 95) (by decide +kernel)), by decide +kernel, rfl, rfl⟩
theorem fl_B_29 : mm_fl "SnapshotFiles$Block" 29 0 2 := ⟨_, rfl, by decide, Or.inl (List.mem_of_getElem? (i := 100) (by decide +kernel))⟩
theorem fw_0_2 : mm_fw 0 2 .int := ⟨_, rfl, by decide +kernel, rfl⟩
theorem fl_B_26 : mm_fl "SnapshotFiles$Block" 26 0 3 := ⟨_, rfl, by decide, Or.inl (List.mem_of_getElem? (i := 103) (by decide +kernel))⟩
theorem fw_0_3 : mm_fw 0 3 .int := ⟨_, rfl, by decide +kernel, rfl⟩
theorem fl_B_32 : mm_fl "SnapshotFiles$Block" 32 0 4 := ⟨_, rfl, by decide, Or.inl (List.mem_of_getElem? (i := 106) (by decide +kernel))⟩
theorem fw_0_4 : mm_fw 0 4 .int := ⟨_, rfl, by decide +kernel, rfl⟩
theorem fl_B_35 : mm_fl "SnapshotFiles$Block" 35 0 5 := ⟨_, rfl, by decide, Or.inl (List.mem_of_getElem? (i := 109) (by decide +kernel))⟩
theorem fw_0_5 : mm_fw 0 5 .int := ⟨_, rfl, by decide +kernel, rfl⟩
theorem fl_B_38 : mm_fl "SnapshotFiles$Block" 38 0 6 := ⟨_, rfl, by decide, Or.inl (List.mem_of_getElem? (i := 113) (by decide +kernel))⟩
theorem fw_0_6 : mm_fw 0 6 .int := ⟨_, rfl, by decide +kernel, rfl⟩
theorem fl_B_19 : mm_fl "SnapshotFiles$Block" 19 0 8 := ⟨_, rfl, by decide, Or.inl (List.mem_of_getElem? (i := 122) (by decide +kernel))⟩
theorem fw_0_8 : mm_fw 0 8 .int := ⟨_, rfl, by decide +kernel, rfl⟩
theorem fl_B_41 : mm_fl "SnapshotFiles$Block" 41 0 7 := ⟨_, rfl, by decide, Or.inl (List.mem_of_getElem? (i := 117) (by decide +kernel))⟩
theorem fw_0_7 : mm_fw 0 7 .int := ⟨_, rfl, by decide +kernel, rfl⟩
theorem fl_B_44 : mm_fl "SnapshotFiles$Block" 44 0 9 := ⟨_, rfl, by decide, Or.inl (List.mem_of_getElem? (i := 125) (by decide +kernel))⟩
theorem fw_0_9 : mm_fw 0 9 .int := ⟨_, rfl, by decide +kernel, rfl⟩
theorem fl_B_15 : mm_fl "SnapshotFiles$Block" 15 0 1 := ⟨_, rfl, by decide, Or.inl (List.mem_of_getElem? (i := 96) (by decide +kernel))⟩
theorem fw_0_1 : mm_fw 0 1 .int := ⟨_, rfl, by decide +kernel, rfl⟩
theorem fl_C_11 : mm_fl "SnapshotFiles$Connection" 11 1 0 := ⟨_, rfl, by decide, Or.inl (List.mem_of_getElem? (i := 264) (by decide +kernel))⟩
theorem ff_C_11 : mm_fF "SnapshotFiles$Connection" 11 1 0 (.array (.object "SnapshotFiles$Fid")) := ⟨_, rfl, by decide, (List.mem_of_getElem? (i := 264) (by decide +kernel)), by decide +kernel, rfl, rfl⟩
theorem fl_C_20 : mm_fl "SnapshotFiles$Connection" 20 1 1 := ⟨_, rfl, by decide, Or.inl (List.mem_of_getElem? (i := 266) (by decide +kernel))⟩
theorem ff_C_20 : mm_fF "SnapshotFiles$Connection" 20 1 1 (.array (.object "SnapshotFiles$Request")) := ⟨_, rfl, by decide, (List.mem_of_getElem? (i := 266) (by decide +kernel)), by decide +kernel, rfl, rfl⟩
theorem fl_Q_14 : mm_fl "SnapshotFiles$Request" 14 4 0 := ⟨_, rfl, by decide, Or.inl (List.mem_of_getElem? (i := 246) (by decide +kernel))⟩
theorem ff_Q_14 : mm_fF "SnapshotFiles$Request" 14 4 0 (.object "SnapshotFiles$Row") := ⟨_, rfl, by decide, (List.mem_of_getElem? (i := 246) (by decide +kernel)), by decide +kernel, rfl, rfl⟩
theorem fl_R_7 : mm_fl "SnapshotFiles$Row" 7 5 0 := ⟨_, rfl, by decide, Or.inl (List.mem_of_getElem? (i := 237) (by decide +kernel))⟩
theorem ff_R_7 : mm_fF "SnapshotFiles$Row" 7 5 0 (.array .int) := ⟨_, rfl, by decide, (List.mem_of_getElem? (i := 237) (by decide +kernel)), by decide +kernel, rfl, rfl⟩
theorem fl_M_9 : mm_fl "SnapshotFiles$Members" 9 3 0 := ⟨_, rfl, by decide, Or.inl (List.mem_of_getElem? (i := 174) (by decide +kernel))⟩
theorem fw_3_0 : mm_fw 3 0 .int := ⟨_, rfl, by decide +kernel, rfl⟩
theorem fl_X_61 : mm_fl "SnapshotFiles" 61 5 1 := ⟨_, rfl, by decide, Or.inr ⟨"SnapshotFiles", (List.mem_of_getElem? (i := 239) (by decide +kernel))⟩⟩
theorem fw_5_1 : mm_fw 5 1 .int := ⟨_, rfl, by decide +kernel, rfl⟩
theorem fl_R_13 : mm_fl "SnapshotFiles$Row" 13 5 1 := ⟨_, rfl, by decide, Or.inl (List.mem_of_getElem? (i := 238) (by decide +kernel))⟩
theorem fl_X_72 : mm_fl "SnapshotFiles" 72 4 1 := ⟨_, rfl, by decide, Or.inr ⟨"SnapshotFiles", (List.mem_of_getElem? (i := 249) (by decide +kernel))⟩⟩
theorem fw_4_1 : mm_fw 4 1 .boolean := ⟨_, rfl, by decide +kernel, rfl⟩
theorem fl_Q_20 : mm_fl "SnapshotFiles$Request" 20 4 2 := ⟨_, rfl, by decide, Or.inl (List.mem_of_getElem? (i := 251) (by decide +kernel))⟩
theorem fw_4_2 : mm_fw 4 2 .int := ⟨_, rfl, by decide +kernel, rfl⟩
theorem fl_Q_24 : mm_fl "SnapshotFiles$Request" 24 4 3 := ⟨_, rfl, by decide, Or.inl (List.mem_of_getElem? (i := 253) (by decide +kernel))⟩
theorem fw_4_3 : mm_fw 4 3 .int := ⟨_, rfl, by decide +kernel, rfl⟩
theorem fl_Q_31 : mm_fl "SnapshotFiles$Request" 31 4 1 := ⟨_, rfl, by decide, Or.inl (List.mem_of_getElem? (i := 248) (by decide +kernel))⟩
theorem fl_X_155 : mm_fl "SnapshotFiles" 155 4 2 := ⟨_, rfl, by decide, Or.inr ⟨"SnapshotFiles", (List.mem_of_getElem? (i := 252) (by decide +kernel))⟩⟩
theorem fl_X_158 : mm_fl "SnapshotFiles" 158 4 0 := ⟨_, rfl, by decide, Or.inr ⟨"SnapshotFiles", (List.mem_of_getElem? (i := 247) (by decide +kernel))⟩⟩
theorem fl_X_161 : mm_fl "SnapshotFiles" 161 4 3 := ⟨_, rfl, by decide, Or.inr ⟨"SnapshotFiles", (List.mem_of_getElem? (i := 254) (by decide +kernel))⟩⟩
theorem fl_X_116 : mm_fl "SnapshotFiles" 116 2 0 := ⟨_, rfl, by decide, Or.inr ⟨"SnapshotFiles", (List.mem_of_getElem? (i := 193) (by decide +kernel))⟩⟩
theorem fw_2_0 : mm_fw 2 0 .boolean := ⟨_, rfl, by decide +kernel, rfl⟩
theorem fl_X_137 : mm_fl "SnapshotFiles" 137 6 1 := ⟨_, rfl, by decide, Or.inr ⟨"SnapshotFiles", (List.mem_of_getElem? (i := 158) (by decide +kernel))⟩⟩
theorem fw_6_1 : mm_fw 6 1 .int := ⟨_, rfl, by decide +kernel, rfl⟩
theorem fl_S_26 : mm_fl "SnapshotFiles$Store" 26 0 2 := ⟨_, rfl, by decide, Or.inr ⟨"SnapshotFiles", (List.mem_of_getElem? (i := 98) (by decide +kernel))⟩⟩
theorem fl_S_30 : mm_fl "SnapshotFiles$Store" 30 0 1 := ⟨_, rfl, by decide, Or.inr ⟨"SnapshotFiles", (List.mem_of_getElem? (i := 97) (by decide +kernel))⟩⟩
theorem fl_F_9 : mm_fl "SnapshotFiles$Fid" 9 2 0 := ⟨_, rfl, by decide, Or.inl (List.mem_of_getElem? (i := 192) (by decide +kernel))⟩
theorem fl_F_15 : mm_fl "SnapshotFiles$Fid" 15 2 1 := ⟨_, rfl, by decide, Or.inl (List.mem_of_getElem? (i := 194) (by decide +kernel))⟩
theorem fw_2_1 : mm_fw 2 1 .boolean := ⟨_, rfl, by decide +kernel, rfl⟩
theorem fl_F_18 : mm_fl "SnapshotFiles$Fid" 18 2 2 := ⟨_, rfl, by decide, Or.inl (List.mem_of_getElem? (i := 197) (by decide +kernel))⟩
theorem fw_2_2 : mm_fw 2 2 .int := ⟨_, rfl, by decide +kernel, rfl⟩
theorem fl_F_22 : mm_fl "SnapshotFiles$Fid" 22 2 3 := ⟨_, rfl, by decide, Or.inl (List.mem_of_getElem? (i := 199) (by decide +kernel))⟩
theorem fw_2_3 : mm_fw 2 3 .int := ⟨_, rfl, by decide +kernel, rfl⟩
theorem fl_F_25 : mm_fl "SnapshotFiles$Fid" 25 2 4 := ⟨_, rfl, by decide, Or.inl (List.mem_of_getElem? (i := 202) (by decide +kernel))⟩
theorem fw_2_4 : mm_fw 2 4 .int := ⟨_, rfl, by decide +kernel, rfl⟩
theorem fl_X_399 : mm_fl "SnapshotFiles" 399 0 8 := ⟨_, rfl, by decide, Or.inr ⟨"SnapshotFiles", (List.mem_of_getElem? (i := 124) (by decide +kernel))⟩⟩
theorem fl_X_244 : mm_fl "SnapshotFiles" 244 0 2 := ⟨_, rfl, by decide, Or.inr ⟨"SnapshotFiles", (List.mem_of_getElem? (i := 101) (by decide +kernel))⟩⟩
theorem fl_X_272 : mm_fl "SnapshotFiles" 272 0 7 := ⟨_, rfl, by decide, Or.inr ⟨"SnapshotFiles", (List.mem_of_getElem? (i := 119) (by decide +kernel))⟩⟩
theorem fl_X_121 : mm_fl "SnapshotFiles" 121 2 1 := ⟨_, rfl, by decide, Or.inr ⟨"SnapshotFiles", (List.mem_of_getElem? (i := 196) (by decide +kernel))⟩⟩
theorem fl_X_225 : mm_fl "SnapshotFiles" 225 2 3 := ⟨_, rfl, by decide, Or.inr ⟨"SnapshotFiles", (List.mem_of_getElem? (i := 201) (by decide +kernel))⟩⟩
theorem fl_X_354 : mm_fl "SnapshotFiles" 354 2 4 := ⟨_, rfl, by decide, Or.inr ⟨"SnapshotFiles", (List.mem_of_getElem? (i := 204) (by decide +kernel))⟩⟩
theorem fl_X_228 : mm_fl "SnapshotFiles" 228 0 3 := ⟨_, rfl, by decide, Or.inr ⟨"SnapshotFiles", (List.mem_of_getElem? (i := 104) (by decide +kernel))⟩⟩
theorem fl_X_237 : mm_fl "SnapshotFiles" 237 2 2 := ⟨_, rfl, by decide, Or.inr ⟨"SnapshotFiles", (List.mem_of_getElem? (i := 198) (by decide +kernel))⟩⟩
theorem fl_S_44 : mm_fl "SnapshotFiles$Store" 44 0 4 := ⟨_, rfl, by decide, Or.inr ⟨"SnapshotFiles", (List.mem_of_getElem? (i := 105) (by decide +kernel))⟩⟩
theorem fl_M_15 : mm_fl "SnapshotFiles$Members" 15 0 8 := ⟨_, rfl, by decide, Or.inr ⟨"SnapshotFiles", (List.mem_of_getElem? (i := 120) (by decide +kernel))⟩⟩
theorem fl_M_20 : mm_fl "SnapshotFiles$Members" 20 0 5 := ⟨_, rfl, by decide, Or.inr ⟨"SnapshotFiles", (List.mem_of_getElem? (i := 108) (by decide +kernel))⟩⟩
theorem fl_M_23 : mm_fl "SnapshotFiles$Members" 23 0 6 := ⟨_, rfl, by decide, Or.inr ⟨"SnapshotFiles", (List.mem_of_getElem? (i := 111) (by decide +kernel))⟩⟩
theorem fl_S_33 : mm_fl "SnapshotFiles$Store" 33 0 3 := ⟨_, rfl, by decide, Or.inr ⟨"SnapshotFiles", (List.mem_of_getElem? (i := 102) (by decide +kernel))⟩⟩
theorem fl_C_32 : mm_fl "SnapshotFiles$Connection" 32 2 1 := ⟨_, rfl, by decide, Or.inr ⟨"SnapshotFiles", (List.mem_of_getElem? (i := 195) (by decide +kernel))⟩⟩
theorem fl_C_35 : mm_fl "SnapshotFiles$Connection" 35 2 3 := ⟨_, rfl, by decide, Or.inr ⟨"SnapshotFiles", (List.mem_of_getElem? (i := 200) (by decide +kernel))⟩⟩
theorem fl_C_39 : mm_fl "SnapshotFiles$Connection" 39 2 4 := ⟨_, rfl, by decide, Or.inr ⟨"SnapshotFiles", (List.mem_of_getElem? (i := 203) (by decide +kernel))⟩⟩
theorem fl_F_28 : mm_fl "SnapshotFiles$Fid" 28 2 5 := ⟨_, rfl, by decide, Or.inl (List.mem_of_getElem? (i := 205) (by decide +kernel))⟩
theorem fw_2_5 : mm_fw 2 5 .int := ⟨_, rfl, by decide +kernel, rfl⟩
theorem fl_F_31 : mm_fl "SnapshotFiles$Fid" 31 2 6 := ⟨_, rfl, by decide, Or.inl (List.mem_of_getElem? (i := 207) (by decide +kernel))⟩
theorem fw_2_6 : mm_fw 2 6 .int := ⟨_, rfl, by decide +kernel, rfl⟩
theorem fl_S_95 : mm_fl "SnapshotFiles$Store" 95 0 8 := ⟨_, rfl, by decide, Or.inr ⟨"SnapshotFiles", (List.mem_of_getElem? (i := 123) (by decide +kernel))⟩⟩
theorem fl_S_98 : mm_fl "SnapshotFiles$Store" 98 6 2 := ⟨_, rfl, by decide, Or.inl (List.mem_of_getElem? (i := 160) (by decide +kernel))⟩
theorem fw_6_2 : mm_fw 6 2 .int := ⟨_, rfl, by decide +kernel, rfl⟩
theorem fl_S_101 : mm_fl "SnapshotFiles$Store" 101 0 6 := ⟨_, rfl, by decide, Or.inr ⟨"SnapshotFiles", (List.mem_of_getElem? (i := 114) (by decide +kernel))⟩⟩
theorem fl_S_104 : mm_fl "SnapshotFiles$Store" 104 0 7 := ⟨_, rfl, by decide, Or.inr ⟨"SnapshotFiles", (List.mem_of_getElem? (i := 118) (by decide +kernel))⟩⟩
theorem fl_X_317 : mm_fl "SnapshotFiles" 317 2 5 := ⟨_, rfl, by decide, Or.inr ⟨"SnapshotFiles", (List.mem_of_getElem? (i := 206) (by decide +kernel))⟩⟩
theorem fl_X_324 : mm_fl "SnapshotFiles" 324 2 6 := ⟨_, rfl, by decide, Or.inr ⟨"SnapshotFiles", (List.mem_of_getElem? (i := 208) (by decide +kernel))⟩⟩
theorem fl_X_331 : mm_fl "SnapshotFiles" 331 0 9 := ⟨_, rfl, by decide, Or.inr ⟨"SnapshotFiles", (List.mem_of_getElem? (i := 126) (by decide +kernel))⟩⟩
theorem fl_X_340 : mm_fl "SnapshotFiles" 340 0 4 := ⟨_, rfl, by decide, Or.inr ⟨"SnapshotFiles", (List.mem_of_getElem? (i := 107) (by decide +kernel))⟩⟩
theorem fl_B_47 : mm_fl "SnapshotFiles$Block" 47 5 1 := ⟨_, rfl, by decide, Or.inr ⟨"SnapshotFiles", (List.mem_of_getElem? (i := 240) (by decide +kernel))⟩⟩
theorem fl_X_366 : mm_fl "SnapshotFiles" 366 0 5 := ⟨_, rfl, by decide, Or.inr ⟨"SnapshotFiles", (List.mem_of_getElem? (i := 110) (by decide +kernel))⟩⟩
theorem fl_X_369 : mm_fl "SnapshotFiles" 369 0 6 := ⟨_, rfl, by decide, Or.inr ⟨"SnapshotFiles", (List.mem_of_getElem? (i := 115) (by decide +kernel))⟩⟩
theorem fl_W_15 : mm_fl "SnapshotFiles$Wish" 15 7 0 := ⟨_, rfl, by decide, Or.inl (List.mem_of_getElem? (i := 280) (by decide +kernel))⟩
theorem fw_7_0 : mm_fw 7 0 .int := ⟨_, rfl, by decide +kernel, rfl⟩
theorem fl_W_21 : mm_fl "SnapshotFiles$Wish" 21 7 1 := ⟨_, rfl, by decide, Or.inl (List.mem_of_getElem? (i := 282) (by decide +kernel))⟩
theorem fw_7_1 : mm_fw 7 1 .int := ⟨_, rfl, by decide +kernel, rfl⟩
theorem fl_W_24 : mm_fl "SnapshotFiles$Wish" 24 7 2 := ⟨_, rfl, by decide, Or.inl (List.mem_of_getElem? (i := 284) (by decide +kernel))⟩
theorem fw_7_2 : mm_fw 7 2 .int := ⟨_, rfl, by decide +kernel, rfl⟩
theorem fl_W_27 : mm_fl "SnapshotFiles$Wish" 27 7 3 := ⟨_, rfl, by decide, Or.inl (List.mem_of_getElem? (i := 286) (by decide +kernel))⟩
theorem fw_7_3 : mm_fw 7 3 .int := ⟨_, rfl, by decide +kernel, rfl⟩
theorem fl_W_34 : mm_fl "SnapshotFiles$Wish" 34 0 2 := ⟨_, rfl, by decide, Or.inr ⟨"SnapshotFiles", (List.mem_of_getElem? (i := 99) (by decide +kernel))⟩⟩
theorem fl_X_387 : mm_fl "SnapshotFiles" 387 7 0 := ⟨_, rfl, by decide, Or.inr ⟨"SnapshotFiles", (List.mem_of_getElem? (i := 281) (by decide +kernel))⟩⟩
theorem fl_X_388 : mm_fl "SnapshotFiles" 388 7 1 := ⟨_, rfl, by decide, Or.inr ⟨"SnapshotFiles", (List.mem_of_getElem? (i := 283) (by decide +kernel))⟩⟩
theorem fl_X_391 : mm_fl "SnapshotFiles" 391 7 3 := ⟨_, rfl, by decide, Or.inr ⟨"SnapshotFiles", (List.mem_of_getElem? (i := 287) (by decide +kernel))⟩⟩
theorem fl_X_392 : mm_fl "SnapshotFiles" 392 7 2 := ⟨_, rfl, by decide, Or.inr ⟨"SnapshotFiles", (List.mem_of_getElem? (i := 285) (by decide +kernel))⟩⟩
theorem fl_W_46 : mm_fl "SnapshotFiles$Wish" 46 0 8 := ⟨_, rfl, by decide, Or.inr ⟨"SnapshotFiles", (List.mem_of_getElem? (i := 121) (by decide +kernel))⟩⟩
theorem fl_W_51 : mm_fl "SnapshotFiles$Wish" 51 0 7 := ⟨_, rfl, by decide, Or.inr ⟨"SnapshotFiles", (List.mem_of_getElem? (i := 116) (by decide +kernel))⟩⟩
theorem fl_W_54 : mm_fl "SnapshotFiles$Wish" 54 0 6 := ⟨_, rfl, by decide, Or.inr ⟨"SnapshotFiles", (List.mem_of_getElem? (i := 112) (by decide +kernel))⟩⟩
theorem fl_X_96 : mm_fl "SnapshotFiles" 96 1 0 := ⟨_, rfl, by decide, Or.inr ⟨"SnapshotFiles", (List.mem_of_getElem? (i := 265) (by decide +kernel))⟩⟩
theorem fl_C_25 : mm_fl "SnapshotFiles$Connection" 25 4 1 := ⟨_, rfl, by decide, Or.inr ⟨"SnapshotFiles", (List.mem_of_getElem? (i := 250) (by decide +kernel))⟩⟩
theorem fl_S_107 : mm_fl "SnapshotFiles$Store" 107 6 1 := ⟨_, rfl, by decide, Or.inl (List.mem_of_getElem? (i := 159) (by decide +kernel))⟩
theorem fl_N_7 : mm_fl "SnapshotFilesModel" 7 9 0 := ⟨_, rfl, by decide, Or.inl (List.mem_of_getElem? (i := 737) (by decide +kernel))⟩
theorem ff_N_7 : mm_fF "SnapshotFilesModel" 7 9 0 (.array .boolean) := ⟨_, rfl, by decide, (List.mem_of_getElem? (i := 737) (by decide +kernel)), by decide +kernel, rfl, rfl⟩
theorem fl_N_13 : mm_fl "SnapshotFilesModel" 13 9 1 := ⟨_, rfl, by decide, Or.inl (List.mem_of_getElem? (i := 738) (by decide +kernel))⟩
theorem ff_N_13 : mm_fF "SnapshotFilesModel" 13 9 1 (.array .int) := ⟨_, rfl, by decide, (List.mem_of_getElem? (i := 738) (by decide +kernel)), by decide +kernel, rfl, rfl⟩
theorem fl_N_17 : mm_fl "SnapshotFilesModel" 17 9 2 := ⟨_, rfl, by decide, Or.inl (List.mem_of_getElem? (i := 739) (by decide +kernel))⟩
theorem ff_N_17 : mm_fF "SnapshotFilesModel" 17 9 2 (.array .int) := ⟨_, rfl, by decide, (List.mem_of_getElem? (i := 739) (by decide +kernel)), by decide +kernel, rfl, rfl⟩
theorem fl_N_20 : mm_fl "SnapshotFilesModel" 20 9 3 := ⟨_, rfl, by decide, Or.inl (List.mem_of_getElem? (i := 740) (by decide +kernel))⟩
theorem ff_N_20 : mm_fF "SnapshotFilesModel" 20 9 3 (.array .int) := ⟨_, rfl, by decide, (List.mem_of_getElem? (i := 740) (by decide +kernel)), by decide +kernel, rfl, rfl⟩
theorem fl_N_23 : mm_fl "SnapshotFilesModel" 23 9 4 := ⟨_, rfl, by decide, Or.inl (List.mem_of_getElem? (i := 741) (by decide +kernel))⟩
theorem ff_N_23 : mm_fF "SnapshotFilesModel" 23 9 4 (.array .int) := ⟨_, rfl, by decide, (List.mem_of_getElem? (i := 741) (by decide +kernel)), by decide +kernel, rfl, rfl⟩
theorem fl_N_26 : mm_fl "SnapshotFilesModel" 26 9 5 := ⟨_, rfl, by decide, Or.inl (List.mem_of_getElem? (i := 742) (by decide +kernel))⟩
theorem ff_N_26 : mm_fF "SnapshotFilesModel" 26 9 5 (.array .int) := ⟨_, rfl, by decide, (List.mem_of_getElem? (i := 742) (by decide +kernel)), by decide +kernel, rfl, rfl⟩
theorem fl_N_29 : mm_fl "SnapshotFilesModel" 29 9 6 := ⟨_, rfl, by decide, Or.inl (List.mem_of_getElem? (i := 743) (by decide +kernel))⟩
theorem ff_N_29 : mm_fF "SnapshotFilesModel" 29 9 6 (.array .int) := ⟨_, rfl, by decide, (List.mem_of_getElem? (i := 743) (by decide +kernel)), by decide +kernel, rfl, rfl⟩
theorem fl_N_32 : mm_fl "SnapshotFilesModel" 32 9 7 := ⟨_, rfl, by decide, Or.inl (List.mem_of_getElem? (i := 744) (by decide +kernel))⟩
theorem ff_N_32 : mm_fF "SnapshotFilesModel" 32 9 7 (.array .int) := ⟨_, rfl, by decide, (List.mem_of_getElem? (i := 744) (by decide +kernel)), by decide +kernel, rfl, rfl⟩
theorem fl_N_35 : mm_fl "SnapshotFilesModel" 35 9 8 := ⟨_, rfl, by decide, Or.inl (List.mem_of_getElem? (i := 745) (by decide +kernel))⟩
theorem ff_N_35 : mm_fF "SnapshotFilesModel" 35 9 8 (.array .int) := ⟨_, rfl, by decide, (List.mem_of_getElem? (i := 745) (by decide +kernel)), by decide +kernel, rfl, rfl⟩
theorem fl_N_38 : mm_fl "SnapshotFilesModel" 38 9 9 := ⟨_, rfl, by decide, Or.inl (List.mem_of_getElem? (i := 746) (by decide +kernel))⟩
theorem ff_N_38 : mm_fF "SnapshotFilesModel" 38 9 9 (.array .int) := ⟨_, rfl, by decide, (List.mem_of_getElem? (i := 746) (by decide +kernel)), by decide +kernel, rfl, rfl⟩
theorem fl_N_41 : mm_fl "SnapshotFilesModel" 41 9 10 := ⟨_, rfl, by decide, Or.inl (List.mem_of_getElem? (i := 747) (by decide +kernel))⟩
theorem ff_N_41 : mm_fF "SnapshotFilesModel" 41 9 10 (.array .int) := ⟨_, rfl, by decide, (List.mem_of_getElem? (i := 747) (by decide +kernel)), by decide +kernel, rfl, rfl⟩
theorem fl_N_44 : mm_fl "SnapshotFilesModel" 44 9 11 := ⟨_, rfl, by decide, Or.inl (List.mem_of_getElem? (i := 748) (by decide +kernel))⟩
theorem ff_N_44 : mm_fF "SnapshotFilesModel" 44 9 11 (.array .int) := ⟨_, rfl, by decide, (List.mem_of_getElem? (i := 748) (by decide +kernel)), by decide +kernel, rfl, rfl⟩
theorem fl_N_47 : mm_fl "SnapshotFilesModel" 47 9 12 := ⟨_, rfl, by decide, Or.inl (List.mem_of_getElem? (i := 749) (by decide +kernel))⟩
theorem fw_9_12 : mm_fw 9 12 .int := ⟨_, rfl, by decide +kernel, rfl⟩
theorem fl_N_51 : mm_fl "SnapshotFilesModel" 51 9 13 := ⟨_, rfl, by decide, Or.inl (List.mem_of_getElem? (i := 750) (by decide +kernel))⟩
theorem fw_9_13 : mm_fw 9 13 .int := ⟨_, rfl, by decide +kernel, rfl⟩
theorem fl_N_54 : mm_fl "SnapshotFilesModel" 54 9 15 := ⟨_, rfl, by decide, Or.inl (List.mem_of_getElem? (i := 752) (by decide +kernel))⟩
theorem ff_N_54 : mm_fF "SnapshotFilesModel" 54 9 15 (.array .int) := ⟨_, rfl, by decide, (List.mem_of_getElem? (i := 752) (by decide +kernel)), by decide +kernel, rfl, rfl⟩
theorem fl_N_57 : mm_fl "SnapshotFilesModel" 57 9 16 := ⟨_, rfl, by decide, Or.inl (List.mem_of_getElem? (i := 753) (by decide +kernel))⟩
theorem ff_N_57 : mm_fF "SnapshotFilesModel" 57 9 16 (.array .int) := ⟨_, rfl, by decide, (List.mem_of_getElem? (i := 753) (by decide +kernel)), by decide +kernel, rfl, rfl⟩
theorem fl_N_60 : mm_fl "SnapshotFilesModel" 60 9 17 := ⟨_, rfl, by decide, Or.inl (List.mem_of_getElem? (i := 754) (by decide +kernel))⟩
theorem ff_N_60 : mm_fF "SnapshotFilesModel" 60 9 17 (.array .int) := ⟨_, rfl, by decide, (List.mem_of_getElem? (i := 754) (by decide +kernel)), by decide +kernel, rfl, rfl⟩
theorem fl_N_63 : mm_fl "SnapshotFilesModel" 63 9 18 := ⟨_, rfl, by decide, Or.inl (List.mem_of_getElem? (i := 755) (by decide +kernel))⟩
theorem ff_N_63 : mm_fF "SnapshotFilesModel" 63 9 18 (.array .int) := ⟨_, rfl, by decide, (List.mem_of_getElem? (i := 755) (by decide +kernel)), by decide +kernel, rfl, rfl⟩
theorem fl_N_66 : mm_fl "SnapshotFilesModel" 66 9 19 := ⟨_, rfl, by decide, Or.inl (List.mem_of_getElem? (i := 756) (by decide +kernel))⟩
theorem ff_N_66 : mm_fF "SnapshotFilesModel" 66 9 19 (.array .int) := ⟨_, rfl, by decide, (List.mem_of_getElem? (i := 756) (by decide +kernel)), by decide +kernel, rfl, rfl⟩
theorem fl_N_69 : mm_fl "SnapshotFilesModel" 69 9 20 := ⟨_, rfl, by decide, Or.inl (List.mem_of_getElem? (i := 757) (by decide +kernel))⟩
theorem ff_N_69 : mm_fF "SnapshotFilesModel" 69 9 20 (.array .int) := ⟨_, rfl, by decide, (List.mem_of_getElem? (i := 757) (by decide +kernel)), by decide +kernel, rfl, rfl⟩
theorem fl_N_72 : mm_fl "SnapshotFilesModel" 72 9 21 := ⟨_, rfl, by decide, Or.inl (List.mem_of_getElem? (i := 758) (by decide +kernel))⟩
theorem ff_N_72 : mm_fF "SnapshotFilesModel" 72 9 21 (.array .int) := ⟨_, rfl, by decide, (List.mem_of_getElem? (i := 758) (by decide +kernel)), by decide +kernel, rfl, rfl⟩
theorem fl_N_75 : mm_fl "SnapshotFilesModel" 75 9 22 := ⟨_, rfl, by decide, Or.inl (List.mem_of_getElem? (i := 759) (by decide +kernel))⟩
theorem ff_N_75 : mm_fF "SnapshotFilesModel" 75 9 22 (.array .int) := ⟨_, rfl, by decide, (List.mem_of_getElem? (i := 759) (by decide +kernel)), by decide +kernel, rfl, rfl⟩
theorem fl_N_78 : mm_fl "SnapshotFilesModel" 78 9 23 := ⟨_, rfl, by decide, Or.inl (List.mem_of_getElem? (i := 760) (by decide +kernel))⟩
theorem ff_N_78 : mm_fF "SnapshotFilesModel" 78 9 23 (.array .int) := ⟨_, rfl, by decide, (List.mem_of_getElem? (i := 760) (by decide +kernel)), by decide +kernel, rfl, rfl⟩
theorem fl_N_81 : mm_fl "SnapshotFilesModel" 81 9 25 := ⟨_, rfl, by decide, Or.inl (List.mem_of_getElem? (i := 762) (by decide +kernel))⟩
theorem ff_N_81 : mm_fF "SnapshotFilesModel" 81 9 25 (.array .int) := ⟨_, rfl, by decide, (List.mem_of_getElem? (i := 762) (by decide +kernel)), by decide +kernel, rfl, rfl⟩
theorem fl_N_84 : mm_fl "SnapshotFilesModel" 84 9 27 := ⟨_, rfl, by decide, Or.inl (List.mem_of_getElem? (i := 764) (by decide +kernel))⟩
theorem ff_N_84 : mm_fF "SnapshotFilesModel" 84 9 27 (.array .int) := ⟨_, rfl, by decide, (List.mem_of_getElem? (i := 764) (by decide +kernel)), by decide +kernel, rfl, rfl⟩
theorem fl_N_87 : mm_fl "SnapshotFilesModel" 87 9 28 := ⟨_, rfl, by decide, Or.inl (List.mem_of_getElem? (i := 765) (by decide +kernel))⟩
theorem ff_N_87 : mm_fF "SnapshotFilesModel" 87 9 28 (.array .int) := ⟨_, rfl, by decide, (List.mem_of_getElem? (i := 765) (by decide +kernel)), by decide +kernel, rfl, rfl⟩
theorem fl_N_93 : mm_fl "SnapshotFilesModel" 93 9 24 := ⟨_, rfl, by decide, Or.inl (List.mem_of_getElem? (i := 761) (by decide +kernel))⟩
theorem fw_9_24 : mm_fw 9 24 .int := ⟨_, rfl, by decide +kernel, rfl⟩
theorem fl_N_96 : mm_fl "SnapshotFilesModel" 96 9 26 := ⟨_, rfl, by decide, Or.inl (List.mem_of_getElem? (i := 763) (by decide +kernel))⟩
theorem fw_9_26 : mm_fw 9 26 .int := ⟨_, rfl, by decide +kernel, rfl⟩
theorem fl_N_107 : mm_fl "SnapshotFilesModel" 107 9 29 := ⟨_, rfl, by decide, Or.inl (List.mem_of_getElem? (i := 766) (by decide +kernel))⟩
theorem fw_9_29 : mm_fw 9 29 .int := ⟨_, rfl, by decide +kernel, rfl⟩
theorem fl_N_157 : mm_fl "SnapshotFilesModel" 157 9 14 := ⟨_, rfl, by decide, Or.inl (List.mem_of_getElem? (i := 751) (by decide +kernel))⟩
theorem fw_9_14 : mm_fw 9 14 .int := ⟨_, rfl, by decide +kernel, rfl⟩
