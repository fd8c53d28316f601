/-! ===== printed by program (wip/whole/gen_facts.py): methods and pool entries by name, with their words ===== -/
def pmCw (M : pmMeth) : Cond := match M.2.2.2.2.1 with
  | [] => .code M.1 M.2.1 M.2.2.1 M.2.2.2.1
  | _ => .codeWith M.1 M.2.1 M.2.2.1 M.2.2.2.1 M.2.2.2.2.1
def pmOk (M : pmMeth) : Prop := (pmCw M ∈ pmW ∧ Cond.initialized M.1.cls ∈ pmW) ∧ plainFor M.1 = true ∧ (M.1.cls ≠ "java/lang/invoke/MethodHandle" ∧ M.1.cls ≠ "java/lang/invoke/VarHandle")
def pmFd (own : String) (x ci j : Nat) : Prop := ∃ r : vw_C, pmCl[ci]? = some r ∧ j < r.2.2 ∧ Cond.fieldLink own x (r.2.1 j).1 (r.2.1 j).2.1 (r.2.1 j).2.2.1 ∈ pmW
def pmCk (r : vw_C) : Prop := (∀ w ∈ u_ws r.1 r.2.1 r.2.2, w ∈ pmW) ∧ (∃ ty : Nat → FieldType, ∀ k, k < r.2.2 → parseFieldDescriptor (r.2.1 k).2.2.1 = some (ty k)) ∧ (∀ a, a < r.2.2 → ∀ b, b < r.2.2 → a ≠ b → (r.2.1 a).2.1 ≠ (r.2.1 b).2.1) ∧ Cond.instantiable r.1 r.2.2 ∈ pmW ∧ Cond.initialized r.1 ∈ pmW
theorem pmWs {ws : List Cond} (ps : List Nat) (h : ws = ps.filterMap (fun i => tables_1[i]?)) (hg : ws.all goodWord = true) : ∀ w ∈ ws, w ∈ pmW := by
  intro w hw
  have h1 := List.all_eq_true.mp hg w hw
  rw [h] at hw
  obtain ⟨i, -, hi⟩ := List.mem_filterMap.mp hw
  exact pmW_tb hi h1
theorem pmW_sel {i : Nat} {q : MethodName × Nat} (h : lw_privs[i]? = some q) (hg : goodWord (.selects q.1.cls q.1 q.1) = true) (hk : ∀ q ∈ lw_privs, Cond.selects q.1.cls q.1 q.1 ∈ k2_sels lw_privs) : Cond.selects q.1.cls q.1 q.1 ∈ pmW := pmW_in (List.mem_append_left _ (hk q (List.mem_of_getElem? h))) hg
theorem pmSelIn : ∀ q ∈ lw_privs, Cond.selects q.1.cls q.1 q.1 ∈ k2_sels lw_privs := by
  intro q hq
  unfold k2_sels
  exact List.mem_map.mpr ⟨q, hq, rfl⟩
theorem pmCk_0 : pmCk ("PortableFiles$Bytes", pmT0, 2) := ⟨pmWs [165, 167] (by decide +kernel) (by decide +kernel), ⟨pmy0, by decide +kernel⟩, by decide +kernel, pmW_tb (i := 156) (by decide +kernel) rfl, pmW_tb (i := 7) (by decide +kernel) rfl⟩
theorem pmCk_1 : pmCk ("PortableFiles$Extras", pmT1, 4) := ⟨pmWs [79, 81, 83, 85] (by decide +kernel) (by decide +kernel), ⟨pmy1, by decide +kernel⟩, by decide +kernel, pmW_tb (i := 67) (by decide +kernel) rfl, pmW_tb (i := 5) (by decide +kernel) rfl⟩
theorem pmCk_2 : pmCk ("PortableFiles$Palette", pmT2, 2) := ⟨pmWs [50, 52] (by decide +kernel) (by decide +kernel), ⟨pmy2, by decide +kernel⟩, by decide +kernel, pmW_tb (i := 39) (by decide +kernel) rfl, pmW_tb (i := 3) (by decide +kernel) rfl⟩
theorem pmCk_3 : pmCk ("PortableFiles$Picture", pmT3, 10) := ⟨pmWs [128, 130, 132, 134, 136, 138, 140, 142, 144, 146] (by decide +kernel) (by decide +kernel), ⟨pmy3, by decide +kernel⟩, by decide +kernel, pmW_tb (i := 33) (by decide +kernel) rfl, pmW_tb (i := 2) (by decide +kernel) rfl⟩
theorem pmCk_4 : pmCk ("PortableFiles$Reading", pmT4, 16) := ⟨pmWs [214, 216, 218, 220, 222, 224, 226, 228, 230, 232, 234, 236, 238, 240, 242, 244] (by decide +kernel) (by decide +kernel), ⟨pmy4, by decide +kernel⟩, by decide +kernel, pmW_tb (i := 182) (by decide +kernel) rfl, pmW_tb (i := 8) (by decide +kernel) rfl⟩
theorem pmCk_5 : pmCk ("PortableFiles$Tags", pmT5, 1) := ⟨pmWs [63] (by decide +kernel) (by decide +kernel), ⟨pmy5, by decide +kernel⟩, by decide +kernel, pmW_tb (i := 57) (by decide +kernel) rfl, pmW_tb (i := 4) (by decide +kernel) rfl⟩
theorem pmCk_6 : pmCk ("PortableFiles$Writing", pmT6, 3) := ⟨pmWs [174, 176, 178] (by decide +kernel) (by decide +kernel), ⟨pmy6, by decide +kernel⟩, by decide +kernel, pmW_tb (i := 150) (by decide +kernel) rfl, pmW_tb (i := 6) (by decide +kernel) rfl⟩
theorem pmCk_7 : pmCk ("PortableFiles", pmT7, 3) := ⟨pmWs [250, 252, 254] (by decide +kernel) (by decide +kernel), ⟨pmy7, by decide +kernel⟩, by decide +kernel, pmW_tb (i := 25) (by decide +kernel) rfl, pmW_tb (i := 1) (by decide +kernel) rfl⟩
theorem pmCk_8 : pmCk ("PortableFilesModel", pmT8, 42) := ⟨pmWs [1081, 1083, 1085, 1087, 1089, 1091, 1093, 1095, 1097, 1099, 1101, 1103, 1105, 1107, 1109, 1111, 1113, 1115, 1117, 1119, 1121, 1123, 1125, 1127, 1129, 1131, 1133, 1135, 1137, 1139, 1141, 1143, 1145, 1147, 1149, 1151, 1153, 1155, 1157, 1159, 1161, 1163] (by decide +kernel) (by decide +kernel), ⟨pmy8, by decide +kernel⟩, by decide +kernel, pmW_tb (i := 1034) (by decide +kernel) rfl, pmW_tb (i := 9) (by decide +kernel) rfl⟩
theorem pmCk_of {ci : Nat} {r : vw_C} (h : pmCl[ci]? = some r) : pmCk r := by
  match ci, h with
  | 0, h => cases h; exact pmCk_0
  | 1, h => cases h; exact pmCk_1
  | 2, h => cases h; exact pmCk_2
  | 3, h => cases h; exact pmCk_3
  | 4, h => cases h; exact pmCk_4
  | 5, h => cases h; exact pmCk_5
  | 6, h => cases h; exact pmCk_6
  | 7, h => cases h; exact pmCk_7
  | 8, h => cases h; exact pmCk_8
  | ci + 9, h => simp [pmCl] at h
theorem qI_PF : Jvm.Cond.initialized "PortableFiles" ∈ pmW := pmW_tb (i := 1) (by decide +kernel) rfl
theorem qI_Bytes : Jvm.Cond.initialized "PortableFiles$Bytes" ∈ pmW := pmW_tb (i := 7) (by decide +kernel) rfl
theorem qI_Extras : Jvm.Cond.initialized "PortableFiles$Extras" ∈ pmW := pmW_tb (i := 5) (by decide +kernel) rfl
theorem qI_Less : Jvm.Cond.initialized "PortableFiles$Lessening" ∈ pmW := pmW_tb (i := 22) (by decide +kernel) rfl
theorem qI_Letters : Jvm.Cond.initialized "PortableFiles$Letters" ∈ pmW := pmW_tb (i := 19) (by decide +kernel) rfl
theorem qI_Palette : Jvm.Cond.initialized "PortableFiles$Palette" ∈ pmW := pmW_tb (i := 3) (by decide +kernel) rfl
theorem qI_Picture : Jvm.Cond.initialized "PortableFiles$Picture" ∈ pmW := pmW_tb (i := 2) (by decide +kernel) rfl
theorem qI_Reading : Jvm.Cond.initialized "PortableFiles$Reading" ∈ pmW := pmW_tb (i := 8) (by decide +kernel) rfl
theorem qI_Rows : Jvm.Cond.initialized "PortableFiles$Rows" ∈ pmW := pmW_tb (i := 23) (by decide +kernel) rfl
theorem qI_Shape : Jvm.Cond.initialized "PortableFiles$Shape" ∈ pmW := pmW_tb (i := 10) (by decide +kernel) rfl
theorem qI_Tags : Jvm.Cond.initialized "PortableFiles$Tags" ∈ pmW := pmW_tb (i := 4) (by decide +kernel) rfl
theorem qI_Writing : Jvm.Cond.initialized "PortableFiles$Writing" ∈ pmW := pmW_tb (i := 6) (by decide +kernel) rfl
theorem qI_Law : Jvm.Cond.initialized "PortableFilesLaw" ∈ pmW := pmW_tb (i := 0) (by decide +kernel) rfl
theorem qI_Ref : Jvm.Cond.initialized "PortableFilesModel" ∈ pmW := pmW_tb (i := 9) (by decide +kernel) rfl
theorem qI_Math : Jvm.Cond.initialized "java/lang/Math" ∈ pmW := pmW_tb (i := 17) (by decide +kernel) rfl
theorem qI_Arrays : Jvm.Cond.initialized "java/util/Arrays" ∈ pmW := pmW_tb (i := 15) (by decide +kernel) rfl
def mLaw_head : pmMeth := (⟨"PortableFilesLaw", "head", "(LPortableFiles;IIII)I"⟩, method_3_code, 6, (some .int), [(0, 9, 12, 13)], 13, 5, 7, 114)
theorem ok_mLaw_head : pmOk mLaw_head := ⟨⟨pmW_tb (i := 532) (by decide +kernel) rfl, qI_Law⟩, plainFor_of_name (by decide +kernel), by decide +kernel, by decide +kernel⟩
theorem st_mLaw_head : Cond.static mLaw_head.1 ∈ pmW := pmW_tb (i := 531) (by decide +kernel) rfl
def mLaw_colour : pmMeth := (⟨"PortableFilesLaw", "colour", "(LPortableFiles;IIII[J)I"⟩, method_4_code, 7, (some .int), [(0, 14, 17, 19), (0, 14, 21, 13), (0, 14, 25, 21)], 13, 6, 7, 114)
theorem ok_mLaw_colour : pmOk mLaw_colour := ⟨⟨pmW_tb (i := 611) (by decide +kernel) rfl, qI_Law⟩, plainFor_of_name (by decide +kernel), by decide +kernel, by decide +kernel⟩
theorem st_mLaw_colour : Cond.static mLaw_colour.1 ∈ pmW := pmW_tb (i := 610) (by decide +kernel) rfl
def mLaw_put : pmMeth := (⟨"PortableFilesLaw", "put", "(LPortableFiles;IIII[J)I"⟩, method_5_code, 7, (some .int), [(0, 14, 17, 19), (0, 14, 21, 26), (0, 14, 25, 13)], 13, 6, 8, 135)
theorem ok_mLaw_put : pmOk mLaw_put := ⟨⟨pmW_tb (i := 676) (by decide +kernel) rfl, qI_Law⟩, plainFor_of_name (by decide +kernel), by decide +kernel, by decide +kernel⟩
theorem st_mLaw_put : Cond.static mLaw_put.1 ∈ pmW := pmW_tb (i := 675) (by decide +kernel) rfl
def mLaw_tag : pmMeth := (⟨"PortableFilesLaw", "tag", "(LPortableFiles;II[J)I"⟩, method_6_code, 5, (some .int), [(0, 10, 13, 19), (0, 10, 17, 13)], 13, 4, 8, 133)
theorem ok_mLaw_tag : pmOk mLaw_tag := ⟨⟨pmW_tb (i := 713) (by decide +kernel) rfl, qI_Law⟩, plainFor_of_name (by decide +kernel), by decide +kernel, by decide +kernel⟩
theorem st_mLaw_tag : Cond.static mLaw_tag.1 ∈ pmW := pmW_tb (i := 712) (by decide +kernel) rfl
def mLaw_extra : pmMeth := (⟨"PortableFilesLaw", "extra", "(LPortableFiles;I[J)I"⟩, method_7_code, 4, (some .int), [(0, 9, 12, 19), (0, 9, 15, 13), (0, 9, 18, 21)], 13, 3, 8, 131)
theorem ok_mLaw_extra : pmOk mLaw_extra := ⟨⟨pmW_tb (i := 726) (by decide +kernel) rfl, qI_Law⟩, plainFor_of_name (by decide +kernel), by decide +kernel, by decide +kernel⟩
theorem st_mLaw_extra : Cond.static mLaw_extra.1 ∈ pmW := pmW_tb (i := 725) (by decide +kernel) rfl
def mLaw_byteOf : pmMeth := (⟨"PortableFilesLaw", "byteOf", "(LPortableFiles;II[J)I"⟩, method_8_code, 5, (some .int), [(0, 10, 13, 19), (0, 10, 17, 26), (0, 10, 21, 13), (0, 10, 25, 21)], 13, 4, 8, 132)
theorem ok_mLaw_byteOf : pmOk mLaw_byteOf := ⟨⟨pmW_tb (i := 746) (by decide +kernel) rfl, qI_Law⟩, plainFor_of_name (by decide +kernel), by decide +kernel, by decide +kernel⟩
theorem st_mLaw_byteOf : Cond.static mLaw_byteOf.1 ∈ pmW := pmW_tb (i := 745) (by decide +kernel) rfl
def mLaw_reduce : pmMeth := (⟨"PortableFilesLaw", "reduce", "(LPortableFiles;[J)I"⟩, method_9_code, 3, (some .int), [(0, 8, 11, 19)], 13, 2, 8, 134)
theorem ok_mLaw_reduce : pmOk mLaw_reduce := ⟨⟨pmW_tb (i := 765) (by decide +kernel) rfl, qI_Law⟩, plainFor_of_name (by decide +kernel), by decide +kernel, by decide +kernel⟩
theorem st_mLaw_reduce : Cond.static mLaw_reduce.1 ∈ pmW := pmW_tb (i := 764) (by decide +kernel) rfl
def mLaw_write : pmMeth := (⟨"PortableFilesLaw", "write", "(LPortableFiles;[J)I"⟩, method_10_code, 3, (some .int), [(0, 8, 11, 19)], 13, 2, 8, 159)
theorem ok_mLaw_write : pmOk mLaw_write := ⟨⟨pmW_tb (i := 811) (by decide +kernel) rfl, qI_Law⟩, plainFor_of_name (by decide +kernel), by decide +kernel, by decide +kernel⟩
theorem st_mLaw_write : Cond.static mLaw_write.1 ∈ pmW := pmW_tb (i := 810) (by decide +kernel) rfl
def mLaw_byteAt : pmMeth := (⟨"PortableFilesLaw", "byteAt", "(LPortableFiles;I[J)I"⟩, method_11_code, 4, (some .int), [(0, 9, 12, 26)], 13, 3, 8, 132)
theorem ok_mLaw_byteAt : pmOk mLaw_byteAt := ⟨⟨pmW_tb (i := 915) (by decide +kernel) rfl, qI_Law⟩, plainFor_of_name (by decide +kernel), by decide +kernel, by decide +kernel⟩
theorem st_mLaw_byteAt : Cond.static mLaw_byteAt.1 ∈ pmW := pmW_tb (i := 914) (by decide +kernel) rfl
def mLaw_feed : pmMeth := (⟨"PortableFilesLaw", "feed", "(LPortableFiles;I[J)I"⟩, method_12_code, 4, (some .int), [(0, 9, 12, 13), (0, 9, 15, 21)], 13, 3, 8, 132)
theorem ok_mLaw_feed : pmOk mLaw_feed := ⟨⟨pmW_tb (i := 929) (by decide +kernel) rfl, qI_Law⟩, plainFor_of_name (by decide +kernel), by decide +kernel, by decide +kernel⟩
theorem st_mLaw_feed : Cond.static mLaw_feed.1 ∈ pmW := pmW_tb (i := 928) (by decide +kernel) rfl
def mLaw_pass : pmMeth := (⟨"PortableFilesLaw", "pass", "(LPortableFiles;II[J)I"⟩, method_13_code, 5, (some .int), [(0, 10, 13, 26), (0, 10, 17, 13), (0, 10, 21, 21)], 13, 4, 8, 135)
theorem ok_mLaw_pass : pmOk mLaw_pass := ⟨⟨pmW_tb (i := 942) (by decide +kernel) rfl, qI_Law⟩, plainFor_of_name (by decide +kernel), by decide +kernel, by decide +kernel⟩
theorem st_mLaw_pass : Cond.static mLaw_pass.1 ∈ pmW := pmW_tb (i := 941) (by decide +kernel) rfl
def mLaw_alter : pmMeth := (⟨"PortableFilesLaw", "alter", "(LPortableFiles;IIZ[J)I"⟩, method_14_code, 6, (some .int), [(0, 12, 15, 26), (0, 12, 19, 13)], 13, 5, 8, 134)
theorem ok_mLaw_alter : pmOk mLaw_alter := ⟨⟨pmW_tb (i := 951) (by decide +kernel) rfl, qI_Law⟩, plainFor_of_name (by decide +kernel), by decide +kernel, by decide +kernel⟩
theorem st_mLaw_alter : Cond.static mLaw_alter.1 ∈ pmW := pmW_tb (i := 950) (by decide +kernel) rfl
def mLaw_at : pmMeth := (⟨"PortableFilesLaw", "at", "(LPortableFiles;III[J)I"⟩, method_15_code, 6, (some .int), [(0, 12, 15, 19), (0, 12, 19, 26)], 13, 5, 8, 133)
theorem ok_mLaw_at : pmOk mLaw_at := ⟨⟨pmW_tb (i := 967) (by decide +kernel) rfl, qI_Law⟩, plainFor_of_name (by decide +kernel), by decide +kernel, by decide +kernel⟩
theorem st_mLaw_at : Cond.static mLaw_at.1 ∈ pmW := pmW_tb (i := 966) (by decide +kernel) rfl
def mLaw_found : pmMeth := (⟨"PortableFilesLaw", "found", "(LPortableFiles;I[J)I"⟩, method_16_code, 4, (some .int), [(0, 9, 12, 19)], 13, 3, 8, 131)
theorem ok_mLaw_found : pmOk mLaw_found := ⟨⟨pmW_tb (i := 980) (by decide +kernel) rfl, qI_Law⟩, plainFor_of_name (by decide +kernel), by decide +kernel, by decide +kernel⟩
theorem st_mLaw_found : Cond.static mLaw_found.1 ∈ pmW := pmW_tb (i := 979) (by decide +kernel) rfl
def mLaw_entry : pmMeth := (⟨"PortableFilesLaw", "entry", "(LPortableFiles;II[J)I"⟩, method_17_code, 5, (some .int), [(0, 10, 13, 19), (0, 10, 17, 26), (0, 10, 21, 13)], 13, 4, 8, 132)
theorem ok_mLaw_entry : pmOk mLaw_entry := ⟨⟨pmW_tb (i := 987) (by decide +kernel) rfl, qI_Law⟩, plainFor_of_name (by decide +kernel), by decide +kernel, by decide +kernel⟩
theorem st_mLaw_entry : Cond.static mLaw_entry.1 ∈ pmW := pmW_tb (i := 986) (by decide +kernel) rfl
def mLaw_unknown : pmMeth := (⟨"PortableFilesLaw", "unknown", "(LPortableFiles;II[J)I"⟩, method_18_code, 5, (some .int), [(0, 10, 13, 19), (0, 10, 17, 26)], 13, 4, 8, 133)
theorem ok_mLaw_unknown : pmOk mLaw_unknown := ⟨⟨pmW_tb (i := 998) (by decide +kernel) rfl, qI_Law⟩, plainFor_of_name (by decide +kernel), by decide +kernel, by decide +kernel⟩
theorem st_mLaw_unknown : Cond.static mLaw_unknown.1 ∈ pmW := pmW_tb (i := 997) (by decide +kernel) rfl
def mLaw_take : pmMeth := (⟨"PortableFilesLaw", "take", "(LPortableFiles;)I"⟩, method_19_code, 2, (some .int), [(0, 4, 7, 19)], 13, 1, 8, 130)
theorem ok_mLaw_take : pmOk mLaw_take := ⟨⟨pmW_tb (i := 1009) (by decide +kernel) rfl, qI_Law⟩, plainFor_of_name (by decide +kernel), by decide +kernel, by decide +kernel⟩
theorem st_mLaw_take : Cond.static mLaw_take.1 ∈ pmW := pmW_tb (i := 1008) (by decide +kernel) rfl
def mBytes_init : pmMeth := (⟨"PortableFiles$Bytes", "<init>", "(I)V"⟩, prog_2_method_1_code, 2, none, [], 0, 2, 1, 20)
theorem ok_mBytes_init : pmOk mBytes_init := ⟨⟨pmW_tb (i := 159) (by decide +kernel) rfl, qI_Bytes⟩, plainFor_of_name (by decide +kernel), by decide +kernel, by decide +kernel⟩
theorem im_mBytes_init : Cond.instanceMethod mBytes_init.1 ∈ pmW := pmW_tb (i := 158) (by decide +kernel) rfl
def mBytes_clear : pmMeth := (⟨"PortableFiles$Bytes", "clear", "()V"⟩, prog_2_method_2_code, 1, none, [], 0, 1, 0, 0)
theorem ok_mBytes_clear : pmOk mBytes_clear := ⟨⟨pmW_tb (i := 286) (by decide +kernel) rfl, qI_Bytes⟩, plainFor_of_name (by decide +kernel), by decide +kernel, by decide +kernel⟩
theorem im_mBytes_clear : Cond.instanceMethod mBytes_clear.1 ∈ pmW := pmW_tb (i := 284) (by decide +kernel) rfl
theorem se_mBytes_clear : Cond.selects mBytes_clear.1.cls mBytes_clear.1 mBytes_clear.1 ∈ pmW := pmW_tb (i := 285) (by decide +kernel) rfl
def mBytes_has : pmMeth := (⟨"PortableFiles$Bytes", "has", "(I)Z"⟩, prog_2_method_3_code, 2, (some .boolean), [], 0, 2, 0, 0)
theorem ok_mBytes_has : pmOk mBytes_has := ⟨⟨pmW_tb (i := 278) (by decide +kernel) rfl, qI_Bytes⟩, plainFor_of_name (by decide +kernel), by decide +kernel, by decide +kernel⟩
theorem im_mBytes_has : Cond.instanceMethod mBytes_has.1 ∈ pmW := pmW_tb (i := 276) (by decide +kernel) rfl
theorem se_mBytes_has : Cond.selects mBytes_has.1.cls mBytes_has.1 mBytes_has.1 ∈ pmW := pmW_tb (i := 277) (by decide +kernel) rfl
def mBytes_value : pmMeth := (⟨"PortableFiles$Bytes", "value", "(I)I"⟩, prog_2_method_4_code, 2, (some .int), [], 0, 2, 1, 21)
theorem ok_mBytes_value : pmOk mBytes_value := ⟨⟨pmW_tb (i := 282) (by decide +kernel) rfl, qI_Bytes⟩, plainFor_of_name (by decide +kernel), by decide +kernel, by decide +kernel⟩
theorem im_mBytes_value : Cond.instanceMethod mBytes_value.1 ∈ pmW := pmW_tb (i := 280) (by decide +kernel) rfl
theorem se_mBytes_value : Cond.selects mBytes_value.1.cls mBytes_value.1 mBytes_value.1 ∈ pmW := pmW_tb (i := 281) (by decide +kernel) rfl
def mBytes_set : pmMeth := (⟨"PortableFiles$Bytes", "set", "(II)V"⟩, prog_2_method_5_code, 3, none, [], 0, 3, 1, 21)
theorem ok_mBytes_set : pmOk mBytes_set := ⟨⟨pmW_tb (i := 852) (by decide +kernel) rfl, qI_Bytes⟩, plainFor_of_name (by decide +kernel), by decide +kernel, by decide +kernel⟩
theorem im_mBytes_set : Cond.instanceMethod mBytes_set.1 ∈ pmW := pmW_tb (i := 850) (by decide +kernel) rfl
theorem se_mBytes_set : Cond.selects mBytes_set.1.cls mBytes_set.1 mBytes_set.1 ∈ pmW := pmW_tb (i := 851) (by decide +kernel) rfl
def mBytes_add : pmMeth := (⟨"PortableFiles$Bytes", "add", "(I)V"⟩, prog_2_method_6_code, 2, none, [], 0, 2, 0, 0)
theorem ok_mBytes_add : pmOk mBytes_add := ⟨⟨pmW_tb (i := 458) (by decide +kernel) rfl, qI_Bytes⟩, plainFor_of_name (by decide +kernel), by decide +kernel, by decide +kernel⟩
theorem im_mBytes_add : Cond.instanceMethod mBytes_add.1 ∈ pmW := pmW_tb (i := 456) (by decide +kernel) rfl
theorem se_mBytes_add : Cond.selects mBytes_add.1.cls mBytes_add.1 mBytes_add.1 ∈ pmW := pmW_tb (i := 457) (by decide +kernel) rfl
def mBytes_number : pmMeth := (⟨"PortableFiles$Bytes", "number", "(I)I"⟩, prog_2_method_7_code, 2, (some .int), [], 0, 2, 2, 42)
theorem ok_mBytes_number : pmOk mBytes_number := ⟨⟨pmW_tb (i := 302) (by decide +kernel) rfl, qI_Bytes⟩, plainFor_of_name (by decide +kernel), by decide +kernel, by decide +kernel⟩
theorem im_mBytes_number : Cond.instanceMethod mBytes_number.1 ∈ pmW := pmW_tb (i := 300) (by decide +kernel) rfl
theorem se_mBytes_number : Cond.selects mBytes_number.1.cls mBytes_number.1 mBytes_number.1 ∈ pmW := pmW_tb (i := 301) (by decide +kernel) rfl
def mBytes_setNumber : pmMeth := (⟨"PortableFiles$Bytes", "setNumber", "(II)V"⟩, prog_2_method_8_code, 3, none, [], 0, 3, 2, 43)
theorem ok_mBytes_setNumber : pmOk mBytes_setNumber := ⟨⟨pmW_tb (i := 848) (by decide +kernel) rfl, qI_Bytes⟩, plainFor_of_name (by decide +kernel), by decide +kernel, by decide +kernel⟩
theorem im_mBytes_setNumber : Cond.instanceMethod mBytes_setNumber.1 ∈ pmW := pmW_tb (i := 846) (by decide +kernel) rfl
theorem se_mBytes_setNumber : Cond.selects mBytes_setNumber.1.cls mBytes_setNumber.1 mBytes_setNumber.1 ∈ pmW := pmW_tb (i := 847) (by decide +kernel) rfl
def mBytes_addNumber : pmMeth := (⟨"PortableFiles$Bytes", "addNumber", "(I)V"⟩, prog_2_method_9_code, 2, none, [], 0, 2, 1, 21)
theorem ok_mBytes_addNumber : pmOk mBytes_addNumber := ⟨⟨pmW_tb (i := 839) (by decide +kernel) rfl, qI_Bytes⟩, plainFor_of_name (by decide +kernel), by decide +kernel, by decide +kernel⟩
theorem im_mBytes_addNumber : Cond.instanceMethod mBytes_addNumber.1 ∈ pmW := pmW_tb (i := 837) (by decide +kernel) rfl
theorem se_mBytes_addNumber : Cond.selects mBytes_addNumber.1.cls mBytes_addNumber.1 mBytes_addNumber.1 ∈ pmW := pmW_tb (i := 838) (by decide +kernel) rfl
def mBytes_addBeginning : pmMeth := (⟨"PortableFiles$Bytes", "addBeginning", "()V"⟩, prog_2_method_10_code, 2, none, [], 0, 1, 1, 21)
theorem ok_mBytes_addBeginning : pmOk mBytes_addBeginning := ⟨⟨pmW_tb (i := 825) (by decide +kernel) rfl, qI_Bytes⟩, plainFor_of_name (by decide +kernel), by decide +kernel, by decide +kernel⟩
theorem im_mBytes_addBeginning : Cond.instanceMethod mBytes_addBeginning.1 ∈ pmW := pmW_tb (i := 823) (by decide +kernel) rfl
theorem se_mBytes_addBeginning : Cond.selects mBytes_addBeginning.1.cls mBytes_addBeginning.1 mBytes_addBeginning.1 ∈ pmW := pmW_tb (i := 824) (by decide +kernel) rfl
def mBytes_hasBeginning : pmMeth := (⟨"PortableFiles$Bytes", "hasBeginning", "()Z"⟩, prog_2_method_11_code, 2, (some .boolean), [], 0, 1, 2, 42)
theorem ok_mBytes_hasBeginning : pmOk mBytes_hasBeginning := ⟨⟨pmW_tb (i := 272) (by decide +kernel) rfl, qI_Bytes⟩, plainFor_of_name (by decide +kernel), by decide +kernel, by decide +kernel⟩
theorem im_mBytes_hasBeginning : Cond.instanceMethod mBytes_hasBeginning.1 ∈ pmW := pmW_tb (i := 270) (by decide +kernel) rfl
theorem se_mBytes_hasBeginning : Cond.selects mBytes_hasBeginning.1.cls mBytes_hasBeginning.1 mBytes_hasBeginning.1 ∈ pmW := pmW_tb (i := 271) (by decide +kernel) rfl
def mBytes_dataLengthMayBe : pmMeth := (⟨"PortableFiles$Bytes", "dataLengthMayBe", "(I)Z"⟩, prog_2_method_12_code, 1, (some .boolean), [], 0, 1, 0, 0)
theorem ok_mBytes_dataLengthMayBe : pmOk mBytes_dataLengthMayBe := ⟨⟨pmW_tb (i := 305) (by decide +kernel) rfl, qI_Bytes⟩, plainFor_of_name (by decide +kernel), by decide +kernel, by decide +kernel⟩
theorem st_mBytes_dataLengthMayBe : Cond.static mBytes_dataLengthMayBe.1 ∈ pmW := pmW_tb (i := 304) (by decide +kernel) rfl
def mBytes_hasWholeChunk : pmMeth := (⟨"PortableFiles$Bytes", "hasWholeChunk", "(II)Z"⟩, prog_2_method_13_code, 3, (some .boolean), [], 0, 3, 0, 0)
theorem ok_mBytes_hasWholeChunk : pmOk mBytes_hasWholeChunk := ⟨⟨pmW_tb (i := 298) (by decide +kernel) rfl, qI_Bytes⟩, plainFor_of_name (by decide +kernel), by decide +kernel, by decide +kernel⟩
theorem im_mBytes_hasWholeChunk : Cond.instanceMethod mBytes_hasWholeChunk.1 ∈ pmW := pmW_tb (i := 296) (by decide +kernel) rfl
theorem se_mBytes_hasWholeChunk : Cond.selects mBytes_hasWholeChunk.1.cls mBytes_hasWholeChunk.1 mBytes_hasWholeChunk.1 ∈ pmW := pmW_tb (i := 297) (by decide +kernel) rfl
def mBytes_sumIsRight : pmMeth := (⟨"PortableFiles$Bytes", "sumIsRight", "(II)Z"⟩, prog_2_method_14_code, 3, (some .boolean), [], 0, 3, 3, 67)
theorem ok_mBytes_sumIsRight : pmOk mBytes_sumIsRight := ⟨⟨pmW_tb (i := 321) (by decide +kernel) rfl, qI_Bytes⟩, plainFor_of_name (by decide +kernel), by decide +kernel, by decide +kernel⟩
theorem im_mBytes_sumIsRight : Cond.instanceMethod mBytes_sumIsRight.1 ∈ pmW := pmW_tb (i := 319) (by decide +kernel) rfl
theorem se_mBytes_sumIsRight : Cond.selects mBytes_sumIsRight.1.cls mBytes_sumIsRight.1 mBytes_sumIsRight.1 ∈ pmW := pmW_tb (i := 320) (by decide +kernel) rfl
def mBytes_rightSum : pmMeth := (⟨"PortableFiles$Bytes", "rightSum", "(II)I"⟩, prog_2_method_15_code, 6, (some .int), [], 0, 3, 2, 42)
theorem ok_mBytes_rightSum : pmOk mBytes_rightSum := ⟨⟨pmW_tb (i := 329) (by decide +kernel) rfl, qI_Bytes⟩, plainFor_of_name (by decide +kernel), by decide +kernel, by decide +kernel⟩
theorem im_mBytes_rightSum : Cond.instanceMethod mBytes_rightSum.1 ∈ pmW := pmW_tb (i := 327) (by decide +kernel) rfl
theorem se_mBytes_rightSum : Cond.selects mBytes_rightSum.1.cls mBytes_rightSum.1 mBytes_rightSum.1 ∈ pmW := pmW_tb (i := 328) (by decide +kernel) rfl
def mBytes_mendSum : pmMeth := (⟨"PortableFiles$Bytes", "mendSum", "(I)V"⟩, prog_2_method_16_code, 4, none, [], 0, 2, 3, 67)
theorem ok_mBytes_mendSum : pmOk mBytes_mendSum := ⟨⟨pmW_tb (i := 961) (by decide +kernel) rfl, qI_Bytes⟩, plainFor_of_name (by decide +kernel), by decide +kernel, by decide +kernel⟩
theorem im_mBytes_mendSum : Cond.instanceMethod mBytes_mendSum.1 ∈ pmW := pmW_tb (i := 959) (by decide +kernel) rfl
theorem se_mBytes_mendSum : Cond.selects mBytes_mendSum.1.cls mBytes_mendSum.1 mBytes_mendSum.1 ∈ pmW := pmW_tb (i := 960) (by decide +kernel) rfl
def mBytes_sumPlace : pmMeth := (⟨"PortableFiles$Bytes", "sumPlace", "(II)I"⟩, prog_2_method_17_code, 2, (some .int), [], 0, 2, 0, 0)
theorem ok_mBytes_sumPlace : pmOk mBytes_sumPlace := ⟨⟨pmW_tb (i := 324) (by decide +kernel) rfl, qI_Bytes⟩, plainFor_of_name (by decide +kernel), by decide +kernel, by decide +kernel⟩
theorem st_mBytes_sumPlace : Cond.static mBytes_sumPlace.1 ∈ pmW := pmW_tb (i := 323) (by decide +kernel) rfl
def mExtras_init : pmMeth := (⟨"PortableFiles$Extras", "<init>", "()V"⟩, prog_3_method_1_code, 1, none, [], 1, 1, 1, 20)
theorem ok_mExtras_init : pmOk mExtras_init := ⟨⟨pmW_tb (i := 70) (by decide +kernel) rfl, qI_Extras⟩, plainFor_of_name (by decide +kernel), by decide +kernel, by decide +kernel⟩
theorem im_mExtras_init : Cond.instanceMethod mExtras_init.1 ∈ pmW := pmW_tb (i := 69) (by decide +kernel) rfl
def mExtras_clear : pmMeth := (⟨"PortableFiles$Extras", "clear", "()V"⟩, prog_3_method_2_code, 1, none, [], 1, 1, 0, 0)
theorem ok_mExtras_clear : pmOk mExtras_clear := ⟨⟨pmW_tb (i := 410) (by decide +kernel) rfl, qI_Extras⟩, plainFor_of_name (by decide +kernel), by decide +kernel, by decide +kernel⟩
theorem im_mExtras_clear : Cond.instanceMethod mExtras_clear.1 ∈ pmW := pmW_tb (i := 408) (by decide +kernel) rfl
theorem se_mExtras_clear : Cond.selects mExtras_clear.1.cls mExtras_clear.1 mExtras_clear.1 ∈ pmW := pmW_tb (i := 409) (by decide +kernel) rfl
def mExtras_isFull : pmMeth := (⟨"PortableFiles$Extras", "isFull", "()Z"⟩, prog_3_method_3_code, 1, (some .boolean), [], 1, 1, 0, 0)
theorem ok_mExtras_isFull : pmOk mExtras_isFull := ⟨⟨pmW_tb (i := 466) (by decide +kernel) rfl, qI_Extras⟩, plainFor_of_name (by decide +kernel), by decide +kernel, by decide +kernel⟩
theorem im_mExtras_isFull : Cond.instanceMethod mExtras_isFull.1 ∈ pmW := pmW_tb (i := 464) (by decide +kernel) rfl
theorem se_mExtras_isFull : Cond.selects mExtras_isFull.1.cls mExtras_isFull.1 mExtras_isFull.1 ∈ pmW := pmW_tb (i := 465) (by decide +kernel) rfl
def mExtras_has : pmMeth := (⟨"PortableFiles$Extras", "has", "(I)Z"⟩, prog_3_method_4_code, 2, (some .boolean), [], 1, 2, 0, 0)
theorem ok_mExtras_has : pmOk mExtras_has := ⟨⟨pmW_tb (i := 479) (by decide +kernel) rfl, qI_Extras⟩, plainFor_of_name (by decide +kernel), by decide +kernel, by decide +kernel⟩
theorem im_mExtras_has : Cond.instanceMethod mExtras_has.1 ∈ pmW := pmW_tb (i := 477) (by decide +kernel) rfl
theorem se_mExtras_has : Cond.selects mExtras_has.1.cls mExtras_has.1 mExtras_has.1 ∈ pmW := pmW_tb (i := 478) (by decide +kernel) rfl
def mExtras_lettersOf : pmMeth := (⟨"PortableFiles$Extras", "lettersOf", "(I)I"⟩, prog_3_method_5_code, 2, (some .int), [], 1, 2, 1, 21)
theorem ok_mExtras_lettersOf : pmOk mExtras_lettersOf := ⟨⟨pmW_tb (i := 905) (by decide +kernel) rfl, qI_Extras⟩, plainFor_of_name (by decide +kernel), by decide +kernel, by decide +kernel⟩
theorem im_mExtras_lettersOf : Cond.instanceMethod mExtras_lettersOf.1 ∈ pmW := pmW_tb (i := 903) (by decide +kernel) rfl
theorem se_mExtras_lettersOf : Cond.selects mExtras_lettersOf.1.cls mExtras_lettersOf.1 mExtras_lettersOf.1 ∈ pmW := pmW_tb (i := 904) (by decide +kernel) rfl
def mExtras_lengthOf : pmMeth := (⟨"PortableFiles$Extras", "lengthOf", "(I)I"⟩, prog_3_method_6_code, 2, (some .int), [], 1, 2, 1, 21)
theorem ok_mExtras_lengthOf : pmOk mExtras_lengthOf := ⟨⟨pmW_tb (i := 760) (by decide +kernel) rfl, qI_Extras⟩, plainFor_of_name (by decide +kernel), by decide +kernel, by decide +kernel⟩
theorem im_mExtras_lengthOf : Cond.instanceMethod mExtras_lengthOf.1 ∈ pmW := pmW_tb (i := 758) (by decide +kernel) rfl
theorem se_mExtras_lengthOf : Cond.selects mExtras_lengthOf.1.cls mExtras_lengthOf.1 mExtras_lengthOf.1 ∈ pmW := pmW_tb (i := 759) (by decide +kernel) rfl
def mExtras_value : pmMeth := (⟨"PortableFiles$Extras", "value", "(II)I"⟩, prog_3_method_7_code, 3, (some .int), [], 1, 3, 2, 42)
theorem ok_mExtras_value : pmOk mExtras_value := ⟨⟨pmW_tb (i := 910) (by decide +kernel) rfl, qI_Extras⟩, plainFor_of_name (by decide +kernel), by decide +kernel, by decide +kernel⟩
theorem im_mExtras_value : Cond.instanceMethod mExtras_value.1 ∈ pmW := pmW_tb (i := 908) (by decide +kernel) rfl
theorem se_mExtras_value : Cond.selects mExtras_value.1.cls mExtras_value.1 mExtras_value.1 ∈ pmW := pmW_tb (i := 909) (by decide +kernel) rfl
def mExtras_add : pmMeth := (⟨"PortableFiles$Extras", "add", "(I)V"⟩, prog_3_method_8_code, 2, none, [], 1, 2, 1, 20)
theorem ok_mExtras_add : pmOk mExtras_add := ⟨⟨pmW_tb (i := 470) (by decide +kernel) rfl, qI_Extras⟩, plainFor_of_name (by decide +kernel), by decide +kernel, by decide +kernel⟩
theorem im_mExtras_add : Cond.instanceMethod mExtras_add.1 ∈ pmW := pmW_tb (i := 468) (by decide +kernel) rfl
theorem se_mExtras_add : Cond.selects mExtras_add.1.cls mExtras_add.1 mExtras_add.1 ∈ pmW := pmW_tb (i := 469) (by decide +kernel) rfl
def mExtras_addByte : pmMeth := (⟨"PortableFiles$Extras", "addByte", "(II)V"⟩, prog_3_method_9_code, 3, none, [], 1, 3, 1, 21)
theorem ok_mExtras_addByte : pmOk mExtras_addByte := ⟨⟨pmW_tb (i := 475) (by decide +kernel) rfl, qI_Extras⟩, plainFor_of_name (by decide +kernel), by decide +kernel, by decide +kernel⟩
theorem im_mExtras_addByte : Cond.instanceMethod mExtras_addByte.1 ∈ pmW := pmW_tb (i := 473) (by decide +kernel) rfl
theorem se_mExtras_addByte : Cond.selects mExtras_addByte.1.cls mExtras_addByte.1 mExtras_addByte.1 ∈ pmW := pmW_tb (i := 474) (by decide +kernel) rfl
def mExtras_leaveOnlySafeOnes : pmMeth := (⟨"PortableFiles$Extras", "leaveOnlySafeOnes", "()V"⟩, prog_3_method_10_code, 3, none, [], 1, 1, 2, 48)
theorem ok_mExtras_leaveOnlySafeOnes : pmOk mExtras_leaveOnlySafeOnes := ⟨⟨pmW_tb (i := 663) (by decide +kernel) rfl, qI_Extras⟩, plainFor_of_name (by decide +kernel), by decide +kernel, by decide +kernel⟩
theorem im_mExtras_leaveOnlySafeOnes : Cond.instanceMethod mExtras_leaveOnlySafeOnes.1 ∈ pmW := pmW_tb (i := 661) (by decide +kernel) rfl
theorem se_mExtras_leaveOnlySafeOnes : Cond.selects mExtras_leaveOnlySafeOnes.1.cls mExtras_leaveOnlySafeOnes.1 mExtras_leaveOnlySafeOnes.1 ∈ pmW := pmW_tb (i := 662) (by decide +kernel) rfl
def mExtras_copyFrom : pmMeth := (⟨"PortableFiles$Extras", "copyFrom", "(LPortableFiles$Extras;)V"⟩, prog_3_method_11_code, 2, none, [], 1, 2, 1, 26)
theorem ok_mExtras_copyFrom : pmOk mExtras_copyFrom := ⟨⟨pmW_tb (i := 1032) (by decide +kernel) rfl, qI_Extras⟩, plainFor_of_name (by decide +kernel), by decide +kernel, by decide +kernel⟩
theorem im_mExtras_copyFrom : Cond.instanceMethod mExtras_copyFrom.1 ∈ pmW := pmW_tb (i := 1030) (by decide +kernel) rfl
theorem se_mExtras_copyFrom : Cond.selects mExtras_copyFrom.1.cls mExtras_copyFrom.1 mExtras_copyFrom.1 ∈ pmW := pmW_tb (i := 1031) (by decide +kernel) rfl
def mExtras_move : pmMeth := (⟨"PortableFiles$Extras", "move", "(II)V"⟩, prog_3_method_12_code, 3, none, [], 1, 3, 1, 26)
theorem ok_mExtras_move : pmOk mExtras_move := ⟨⟨pmW_tb (i := 670) (by decide +kernel) rfl, qI_Extras⟩, plainFor_of_name (by decide +kernel), by decide +kernel, by decide +kernel⟩
theorem im_mExtras_move : Cond.instanceMethod mExtras_move.1 ∈ pmW := pmW_tb (i := 669) (by decide +kernel) rfl
theorem se_mExtras_move : Cond.selects mExtras_move.1.cls mExtras_move.1 mExtras_move.1 ∈ pmW := pmW_sel (i := 17) (q := (mExtras_move.1, 4)) (by decide +kernel) rfl pmSelIn
def mPalette_init : pmMeth := (⟨"PortableFiles$Palette", "<init>", "()V"⟩, prog_6_method_1_code, 1, none, [], 2, 1, 1, 20)
theorem ok_mPalette_init : pmOk mPalette_init := ⟨⟨pmW_tb (i := 42) (by decide +kernel) rfl, qI_Palette⟩, plainFor_of_name (by decide +kernel), by decide +kernel, by decide +kernel⟩
theorem im_mPalette_init : Cond.instanceMethod mPalette_init.1 ∈ pmW := pmW_tb (i := 41) (by decide +kernel) rfl
def mPalette_most : pmMeth := (⟨"PortableFiles$Palette", "most", "(I)I"⟩, prog_6_method_2_code, 1, (some .int), [], 2, 1, 1, 21)
theorem ok_mPalette_most : pmOk mPalette_most := ⟨⟨pmW_tb (i := 428) (by decide +kernel) rfl, qI_Palette⟩, plainFor_of_name (by decide +kernel), by decide +kernel, by decide +kernel⟩
theorem st_mPalette_most : Cond.static mPalette_most.1 ∈ pmW := pmW_tb (i := 427) (by decide +kernel) rfl
def mPalette_clear : pmMeth := (⟨"PortableFiles$Palette", "clear", "()V"⟩, prog_6_method_3_code, 1, none, [], 2, 1, 0, 0)
theorem ok_mPalette_clear : pmOk mPalette_clear := ⟨⟨pmW_tb (i := 401) (by decide +kernel) rfl, qI_Palette⟩, plainFor_of_name (by decide +kernel), by decide +kernel, by decide +kernel⟩
theorem im_mPalette_clear : Cond.instanceMethod mPalette_clear.1 ∈ pmW := pmW_tb (i := 399) (by decide +kernel) rfl
theorem se_mPalette_clear : Cond.selects mPalette_clear.1.cls mPalette_clear.1 mPalette_clear.1 ∈ pmW := pmW_tb (i := 400) (by decide +kernel) rfl
def mPalette_has : pmMeth := (⟨"PortableFiles$Palette", "has", "(I)Z"⟩, prog_6_method_4_code, 2, (some .boolean), [], 2, 2, 0, 0)
theorem ok_mPalette_has : pmOk mPalette_has := ⟨⟨pmW_tb (i := 450) (by decide +kernel) rfl, qI_Palette⟩, plainFor_of_name (by decide +kernel), by decide +kernel, by decide +kernel⟩
theorem im_mPalette_has : Cond.instanceMethod mPalette_has.1 ∈ pmW := pmW_tb (i := 448) (by decide +kernel) rfl
theorem se_mPalette_has : Cond.selects mPalette_has.1.cls mPalette_has.1 mPalette_has.1 ∈ pmW := pmW_tb (i := 449) (by decide +kernel) rfl
def mPalette_part : pmMeth := (⟨"PortableFiles$Palette", "part", "(II)I"⟩, prog_6_method_5_code, 3, (some .int), [], 2, 3, 1, 21)
theorem ok_mPalette_part : pmOk mPalette_part := ⟨⟨pmW_tb (i := 871) (by decide +kernel) rfl, qI_Palette⟩, plainFor_of_name (by decide +kernel), by decide +kernel, by decide +kernel⟩
theorem im_mPalette_part : Cond.instanceMethod mPalette_part.1 ∈ pmW := pmW_tb (i := 869) (by decide +kernel) rfl
theorem se_mPalette_part : Cond.selects mPalette_part.1.cls mPalette_part.1 mPalette_part.1 ∈ pmW := pmW_tb (i := 870) (by decide +kernel) rfl
def mPalette_add : pmMeth := (⟨"PortableFiles$Palette", "add", "(IIII)V"⟩, prog_6_method_6_code, 6, none, [], 2, 5, 0, 0)
theorem ok_mPalette_add : pmOk mPalette_add := ⟨⟨pmW_tb (i := 438) (by decide +kernel) rfl, qI_Palette⟩, plainFor_of_name (by decide +kernel), by decide +kernel, by decide +kernel⟩
theorem im_mPalette_add : Cond.instanceMethod mPalette_add.1 ∈ pmW := pmW_tb (i := 436) (by decide +kernel) rfl
theorem se_mPalette_add : Cond.selects mPalette_add.1.cls mPalette_add.1 mPalette_add.1 ∈ pmW := pmW_tb (i := 437) (by decide +kernel) rfl
def mPalette_setAlpha : pmMeth := (⟨"PortableFiles$Palette", "setAlpha", "(II)V"⟩, prog_6_method_7_code, 3, none, [], 2, 3, 1, 21)
theorem ok_mPalette_setAlpha : pmOk mPalette_setAlpha := ⟨⟨pmW_tb (i := 446) (by decide +kernel) rfl, qI_Palette⟩, plainFor_of_name (by decide +kernel), by decide +kernel, by decide +kernel⟩
theorem im_mPalette_setAlpha : Cond.instanceMethod mPalette_setAlpha.1 ∈ pmW := pmW_tb (i := 444) (by decide +kernel) rfl
theorem se_mPalette_setAlpha : Cond.selects mPalette_setAlpha.1.cls mPalette_setAlpha.1 mPalette_setAlpha.1 ∈ pmW := pmW_tb (i := 445) (by decide +kernel) rfl
def mPalette_alphasToTell : pmMeth := (⟨"PortableFiles$Palette", "alphasToTell", "()I"⟩, prog_6_method_8_code, 2, (some .int), [], 2, 1, 2, 43)
theorem ok_mPalette_alphasToTell : pmOk mPalette_alphasToTell := ⟨⟨pmW_tb (i := 879) (by decide +kernel) rfl, qI_Palette⟩, plainFor_of_name (by decide +kernel), by decide +kernel, by decide +kernel⟩
theorem im_mPalette_alphasToTell : Cond.instanceMethod mPalette_alphasToTell.1 ∈ pmW := pmW_tb (i := 877) (by decide +kernel) rfl
theorem se_mPalette_alphasToTell : Cond.selects mPalette_alphasToTell.1.cls mPalette_alphasToTell.1 mPalette_alphasToTell.1 ∈ pmW := pmW_tb (i := 878) (by decide +kernel) rfl
def mPalette_copyFrom : pmMeth := (⟨"PortableFiles$Palette", "copyFrom", "(LPortableFiles$Palette;)V"⟩, prog_6_method_9_code, 2, none, [], 2, 2, 1, 26)
theorem ok_mPalette_copyFrom : pmOk mPalette_copyFrom := ⟨⟨pmW_tb (i := 1022) (by decide +kernel) rfl, qI_Palette⟩, plainFor_of_name (by decide +kernel), by decide +kernel, by decide +kernel⟩
theorem im_mPalette_copyFrom : Cond.instanceMethod mPalette_copyFrom.1 ∈ pmW := pmW_tb (i := 1020) (by decide +kernel) rfl
theorem se_mPalette_copyFrom : Cond.selects mPalette_copyFrom.1.cls mPalette_copyFrom.1 mPalette_copyFrom.1 ∈ pmW := pmW_tb (i := 1021) (by decide +kernel) rfl
def mPicture_init : pmMeth := (⟨"PortableFiles$Picture", "<init>", "()V"⟩, prog_7_method_1_code, 1, none, [], 3, 1, 2, 40)
theorem ok_mPicture_init : pmOk mPicture_init := ⟨⟨pmW_tb (i := 36) (by decide +kernel) rfl, qI_Picture⟩, plainFor_of_name (by decide +kernel), by decide +kernel, by decide +kernel⟩
theorem im_mPicture_init : Cond.instanceMethod mPicture_init.1 ∈ pmW := pmW_tb (i := 35) (by decide +kernel) rfl
def mPicture_begin : pmMeth := (⟨"PortableFiles$Picture", "begin", "(IIII)V"⟩, prog_7_method_2_code, 5, none, [], 3, 5, 2, 43)
theorem ok_mPicture_begin : pmOk mPicture_begin := ⟨⟨pmW_tb (i := 391) (by decide +kernel) rfl, qI_Picture⟩, plainFor_of_name (by decide +kernel), by decide +kernel, by decide +kernel⟩
theorem im_mPicture_begin : Cond.instanceMethod mPicture_begin.1 ∈ pmW := pmW_tb (i := 389) (by decide +kernel) rfl
theorem se_mPicture_begin : Cond.selects mPicture_begin.1.cls mPicture_begin.1 mPicture_begin.1 ∈ pmW := pmW_tb (i := 390) (by decide +kernel) rfl
def mPicture_become : pmMeth := (⟨"PortableFiles$Picture", "become", "(II)V"⟩, prog_7_method_3_code, 3, none, [], 3, 3, 1, 20)
theorem ok_mPicture_become : pmOk mPicture_become := ⟨⟨pmW_tb (i := 783) (by decide +kernel) rfl, qI_Picture⟩, plainFor_of_name (by decide +kernel), by decide +kernel, by decide +kernel⟩
theorem im_mPicture_become : Cond.instanceMethod mPicture_become.1 ∈ pmW := pmW_tb (i := 781) (by decide +kernel) rfl
theorem se_mPicture_become : Cond.selects mPicture_become.1.cls mPicture_become.1 mPicture_become.1 ∈ pmW := pmW_tb (i := 782) (by decide +kernel) rfl
def mPicture_has : pmMeth := (⟨"PortableFiles$Picture", "has", "(III)Z"⟩, prog_7_method_4_code, 4, (some .boolean), [], 3, 4, 0, 0)
theorem ok_mPicture_has : pmOk mPicture_has := ⟨⟨pmW_tb (i := 517) (by decide +kernel) rfl, qI_Picture⟩, plainFor_of_name (by decide +kernel), by decide +kernel, by decide +kernel⟩
theorem im_mPicture_has : Cond.instanceMethod mPicture_has.1 ∈ pmW := pmW_tb (i := 515) (by decide +kernel) rfl
theorem se_mPicture_has : Cond.selects mPicture_has.1.cls mPicture_has.1 mPicture_has.1 ∈ pmW := pmW_tb (i := 516) (by decide +kernel) rfl
def mPicture_sample : pmMeth := (⟨"PortableFiles$Picture", "sample", "(III)I"⟩, prog_7_method_5_code, 4, (some .int), [], 3, 4, 1, 23)
theorem ok_mPicture_sample : pmOk mPicture_sample := ⟨⟨pmW_tb (i := 709) (by decide +kernel) rfl, qI_Picture⟩, plainFor_of_name (by decide +kernel), by decide +kernel, by decide +kernel⟩
theorem im_mPicture_sample : Cond.instanceMethod mPicture_sample.1 ∈ pmW := pmW_tb (i := 707) (by decide +kernel) rfl
theorem se_mPicture_sample : Cond.selects mPicture_sample.1.cls mPicture_sample.1 mPicture_sample.1 ∈ pmW := pmW_tb (i := 708) (by decide +kernel) rfl
def mPicture_setSample : pmMeth := (⟨"PortableFiles$Picture", "setSample", "(IIII)V"⟩, prog_7_method_6_code, 5, none, [], 3, 5, 1, 23)
theorem ok_mPicture_setSample : pmOk mPicture_setSample := ⟨⟨pmW_tb (i := 513) (by decide +kernel) rfl, qI_Picture⟩, plainFor_of_name (by decide +kernel), by decide +kernel, by decide +kernel⟩
theorem im_mPicture_setSample : Cond.instanceMethod mPicture_setSample.1 ∈ pmW := pmW_tb (i := 511) (by decide +kernel) rfl
theorem se_mPicture_setSample : Cond.selects mPicture_setSample.1.cls mPicture_setSample.1 mPicture_setSample.1 ∈ pmW := pmW_tb (i := 512) (by decide +kernel) rfl
def mPicture_sampleMayBe : pmMeth := (⟨"PortableFiles$Picture", "sampleMayBe", "(I)Z"⟩, prog_7_method_7_code, 2, (some .boolean), [], 3, 2, 1, 21)
theorem ok_mPicture_sampleMayBe : pmOk mPicture_sampleMayBe := ⟨⟨pmW_tb (i := 507) (by decide +kernel) rfl, qI_Picture⟩, plainFor_of_name (by decide +kernel), by decide +kernel, by decide +kernel⟩
theorem im_mPicture_sampleMayBe : Cond.instanceMethod mPicture_sampleMayBe.1 ∈ pmW := pmW_tb (i := 505) (by decide +kernel) rfl
theorem se_mPicture_sampleMayBe : Cond.selects mPicture_sampleMayBe.1.cls mPicture_sampleMayBe.1 mPicture_sampleMayBe.1 ∈ pmW := pmW_tb (i := 506) (by decide +kernel) rfl
def mPicture_hasChanged : pmMeth := (⟨"PortableFiles$Picture", "hasChanged", "()V"⟩, prog_7_method_8_code, 1, none, [], 3, 1, 3, 70)
theorem ok_mPicture_hasChanged : pmOk mPicture_hasChanged := ⟨⟨pmW_tb (i := 659) (by decide +kernel) rfl, qI_Picture⟩, plainFor_of_name (by decide +kernel), by decide +kernel, by decide +kernel⟩
theorem im_mPicture_hasChanged : Cond.instanceMethod mPicture_hasChanged.1 ∈ pmW := pmW_tb (i := 657) (by decide +kernel) rfl
theorem se_mPicture_hasChanged : Cond.selects mPicture_hasChanged.1.cls mPicture_hasChanged.1 mPicture_hasChanged.1 ∈ pmW := pmW_tb (i := 658) (by decide +kernel) rfl
def mPicture_copyFrom : pmMeth := (⟨"PortableFiles$Picture", "copyFrom", "(LPortableFiles$Picture;)V"⟩, prog_7_method_9_code, 2, none, [], 3, 2, 2, 47)
theorem ok_mPicture_copyFrom : pmOk mPicture_copyFrom := ⟨⟨pmW_tb (i := 1017) (by decide +kernel) rfl, qI_Picture⟩, plainFor_of_name (by decide +kernel), by decide +kernel, by decide +kernel⟩
theorem im_mPicture_copyFrom : Cond.instanceMethod mPicture_copyFrom.1 ∈ pmW := pmW_tb (i := 1015) (by decide +kernel) rfl
theorem se_mPicture_copyFrom : Cond.selects mPicture_copyFrom.1.cls mPicture_copyFrom.1 mPicture_copyFrom.1 ∈ pmW := pmW_tb (i := 1016) (by decide +kernel) rfl
def mPicture_placeOf : pmMeth := (⟨"PortableFiles$Picture", "placeOf", "(III)I"⟩, prog_7_method_10_code, 3, (some .int), [], 3, 3, 0, 0)
theorem ok_mPicture_placeOf : pmOk mPicture_placeOf := ⟨⟨pmW_tb (i := 520) (by decide +kernel) rfl, qI_Picture⟩, plainFor_of_name (by decide +kernel), by decide +kernel, by decide +kernel⟩
theorem st_mPicture_placeOf : Cond.static mPicture_placeOf.1 ∈ pmW := pmW_tb (i := 519) (by decide +kernel) rfl
def mReading_init : pmMeth := (⟨"PortableFiles$Reading", "<init>", "()V"⟩, prog_8_method_1_code, 1, none, [], 4, 1, 3, 60)
theorem ok_mReading_init : pmOk mReading_init := ⟨⟨pmW_tb (i := 185) (by decide +kernel) rfl, qI_Reading⟩, plainFor_of_name (by decide +kernel), by decide +kernel, by decide +kernel⟩
theorem im_mReading_init : Cond.instanceMethod mReading_init.1 ∈ pmW := pmW_tb (i := 184) (by decide +kernel) rfl
def mReading_run : pmMeth := (⟨"PortableFiles$Reading", "run", "()V"⟩, prog_8_method_2_code, 2, none, [], 4, 1, 6, 134)
theorem ok_mReading_run : pmOk mReading_run := ⟨⟨pmW_tb (i := 264) (by decide +kernel) rfl, qI_Reading⟩, plainFor_of_name (by decide +kernel), by decide +kernel, by decide +kernel⟩
theorem im_mReading_run : Cond.instanceMethod mReading_run.1 ∈ pmW := pmW_tb (i := 262) (by decide +kernel) rfl
theorem se_mReading_run : Cond.selects mReading_run.1.cls mReading_run.1 mReading_run.1 ∈ pmW := pmW_tb (i := 263) (by decide +kernel) rfl
def mReading_begin : pmMeth := (⟨"PortableFiles$Reading", "begin", "()V"⟩, prog_8_method_3_code, 2, none, [], 4, 1, 3, 63)
theorem ok_mReading_begin : pmOk mReading_begin := ⟨⟨pmW_tb (i := 268) (by decide +kernel) rfl, qI_Reading⟩, plainFor_of_name (by decide +kernel), by decide +kernel, by decide +kernel⟩
theorem im_mReading_begin : Cond.instanceMethod mReading_begin.1 ∈ pmW := pmW_tb (i := 267) (by decide +kernel) rfl
theorem se_mReading_begin : Cond.selects mReading_begin.1.cls mReading_begin.1 mReading_begin.1 ∈ pmW := pmW_sel (i := 0) (q := (mReading_begin.1, 16)) (by decide +kernel) rfl pmSelIn
def mReading_readChunk : pmMeth := (⟨"PortableFiles$Reading", "readChunk", "()I"⟩, prog_8_method_4_code, 2, (some .int), [], 4, 1, 5, 113)
theorem ok_mReading_readChunk : pmOk mReading_readChunk := ⟨⟨pmW_tb (i := 290) (by decide +kernel) rfl, qI_Reading⟩, plainFor_of_name (by decide +kernel), by decide +kernel, by decide +kernel⟩
theorem im_mReading_readChunk : Cond.instanceMethod mReading_readChunk.1 ∈ pmW := pmW_tb (i := 289) (by decide +kernel) rfl
theorem se_mReading_readChunk : Cond.selects mReading_readChunk.1.cls mReading_readChunk.1 mReading_readChunk.1 ∈ pmW := pmW_sel (i := 1) (q := (mReading_readChunk.1, 16)) (by decide +kernel) rfl pmSelIn
def mReading_frameFault : pmMeth := (⟨"PortableFiles$Reading", "frameFault", "()I"⟩, prog_8_method_5_code, 1, (some .int), [], 4, 1, 3, 63)
theorem ok_mReading_frameFault : pmOk mReading_frameFault := ⟨⟨pmW_tb (i := 294) (by decide +kernel) rfl, qI_Reading⟩, plainFor_of_name (by decide +kernel), by decide +kernel, by decide +kernel⟩
theorem im_mReading_frameFault : Cond.instanceMethod mReading_frameFault.1 ∈ pmW := pmW_tb (i := 293) (by decide +kernel) rfl
theorem se_mReading_frameFault : Cond.selects mReading_frameFault.1.cls mReading_frameFault.1 mReading_frameFault.1 ∈ pmW := pmW_sel (i := 2) (q := (mReading_frameFault.1, 16)) (by decide +kernel) rfl pmSelIn
def mReading_leaveOut : pmMeth := (⟨"PortableFiles$Reading", "leaveOut", "()I"⟩, prog_8_method_6_code, 1, (some .int), [], 4, 1, 2, 41)
theorem ok_mReading_leaveOut : pmOk mReading_leaveOut := ⟨⟨pmW_tb (i := 335) (by decide +kernel) rfl, qI_Reading⟩, plainFor_of_name (by decide +kernel), by decide +kernel, by decide +kernel⟩
theorem im_mReading_leaveOut : Cond.instanceMethod mReading_leaveOut.1 ∈ pmW := pmW_tb (i := 334) (by decide +kernel) rfl
theorem se_mReading_leaveOut : Cond.selects mReading_leaveOut.1.cls mReading_leaveOut.1 mReading_leaveOut.1 ∈ pmW := pmW_sel (i := 3) (q := (mReading_leaveOut.1, 16)) (by decide +kernel) rfl pmSelIn
def mReading_noteRowsEnd : pmMeth := (⟨"PortableFiles$Reading", "noteRowsEnd", "()V"⟩, prog_8_method_7_code, 1, none, [], 4, 1, 0, 0)
theorem ok_mReading_noteRowsEnd : pmOk mReading_noteRowsEnd := ⟨⟨pmW_tb (i := 342) (by decide +kernel) rfl, qI_Reading⟩, plainFor_of_name (by decide +kernel), by decide +kernel, by decide +kernel⟩
theorem im_mReading_noteRowsEnd : Cond.instanceMethod mReading_noteRowsEnd.1 ∈ pmW := pmW_tb (i := 341) (by decide +kernel) rfl
theorem se_mReading_noteRowsEnd : Cond.selects mReading_noteRowsEnd.1.cls mReading_noteRowsEnd.1 mReading_noteRowsEnd.1 ∈ pmW := pmW_sel (i := 4) (q := (mReading_noteRowsEnd.1, 16)) (by decide +kernel) rfl pmSelIn
def mReading_orderIsWrong : pmMeth := (⟨"PortableFiles$Reading", "orderIsWrong", "()Z"⟩, prog_8_method_8_code, 1, (some .boolean), [], 4, 1, 3, 62)
theorem ok_mReading_orderIsWrong : pmOk mReading_orderIsWrong := ⟨⟨pmW_tb (i := 347) (by decide +kernel) rfl, qI_Reading⟩, plainFor_of_name (by decide +kernel), by decide +kernel, by decide +kernel⟩
theorem im_mReading_orderIsWrong : Cond.instanceMethod mReading_orderIsWrong.1 ∈ pmW := pmW_tb (i := 346) (by decide +kernel) rfl
theorem se_mReading_orderIsWrong : Cond.selects mReading_orderIsWrong.1.cls mReading_orderIsWrong.1 mReading_orderIsWrong.1 ∈ pmW := pmW_sel (i := 5) (q := (mReading_orderIsWrong.1, 16)) (by decide +kernel) rfl pmSelIn
def mReading_isGreyKind : pmMeth := (⟨"PortableFiles$Reading", "isGreyKind", "()Z"⟩, prog_8_method_9_code, 1, (some .boolean), [], 4, 1, 0, 0)
theorem ok_mReading_isGreyKind : pmOk mReading_isGreyKind := ⟨⟨pmW_tb (i := 363) (by decide +kernel) rfl, qI_Reading⟩, plainFor_of_name (by decide +kernel), by decide +kernel, by decide +kernel⟩
theorem im_mReading_isGreyKind : Cond.instanceMethod mReading_isGreyKind.1 ∈ pmW := pmW_tb (i := 362) (by decide +kernel) rfl
theorem se_mReading_isGreyKind : Cond.selects mReading_isGreyKind.1.cls mReading_isGreyKind.1 mReading_isGreyKind.1 ∈ pmW := pmW_sel (i := 6) (q := (mReading_isGreyKind.1, 16)) (by decide +kernel) rfl pmSelIn
def mReading_isUnknown : pmMeth := (⟨"PortableFiles$Reading", "isUnknown", "()Z"⟩, prog_8_method_10_code, 1, (some .boolean), [], 4, 1, 2, 41)
theorem ok_mReading_isUnknown : pmOk mReading_isUnknown := ⟨⟨pmW_tb (i := 367) (by decide +kernel) rfl, qI_Reading⟩, plainFor_of_name (by decide +kernel), by decide +kernel, by decide +kernel⟩
theorem im_mReading_isUnknown : Cond.instanceMethod mReading_isUnknown.1 ∈ pmW := pmW_tb (i := 366) (by decide +kernel) rfl
theorem se_mReading_isUnknown : Cond.selects mReading_isUnknown.1.cls mReading_isUnknown.1 mReading_isUnknown.1 ∈ pmW := pmW_sel (i := 7) (q := (mReading_isUnknown.1, 16)) (by decide +kernel) rfl pmSelIn
def mReading_takeIn : pmMeth := (⟨"PortableFiles$Reading", "takeIn", "()Z"⟩, prog_8_method_11_code, 2, (some .boolean), [], 4, 1, 4, 92)
theorem ok_mReading_takeIn : pmOk mReading_takeIn := ⟨⟨pmW_tb (i := 373) (by decide +kernel) rfl, qI_Reading⟩, plainFor_of_name (by decide +kernel), by decide +kernel, by decide +kernel⟩
theorem im_mReading_takeIn : Cond.instanceMethod mReading_takeIn.1 ∈ pmW := pmW_tb (i := 372) (by decide +kernel) rfl
theorem se_mReading_takeIn : Cond.selects mReading_takeIn.1.cls mReading_takeIn.1 mReading_takeIn.1 ∈ pmW := pmW_sel (i := 8) (q := (mReading_takeIn.1, 16)) (by decide +kernel) rfl pmSelIn
def mReading_takeHead : pmMeth := (⟨"PortableFiles$Reading", "takeHead", "(I)Z"⟩, prog_8_method_12_code, 6, (some .boolean), [], 4, 2, 3, 67)
theorem ok_mReading_takeHead : pmOk mReading_takeHead := ⟨⟨pmW_tb (i := 377) (by decide +kernel) rfl, qI_Reading⟩, plainFor_of_name (by decide +kernel), by decide +kernel, by decide +kernel⟩
theorem im_mReading_takeHead : Cond.instanceMethod mReading_takeHead.1 ∈ pmW := pmW_tb (i := 376) (by decide +kernel) rfl
theorem se_mReading_takeHead : Cond.selects mReading_takeHead.1.cls mReading_takeHead.1 mReading_takeHead.1 ∈ pmW := pmW_sel (i := 9) (q := (mReading_takeHead.1, 16)) (by decide +kernel) rfl pmSelIn
def mReading_takeTag : pmMeth := (⟨"PortableFiles$Reading", "takeTag", "(II)Z"⟩, prog_8_method_13_code, 3, (some .boolean), [], 4, 3, 2, 42)
theorem ok_mReading_takeTag : pmOk mReading_takeTag := ⟨⟨pmW_tb (i := 414) (by decide +kernel) rfl, qI_Reading⟩, plainFor_of_name (by decide +kernel), by decide +kernel, by decide +kernel⟩
theorem im_mReading_takeTag : Cond.instanceMethod mReading_takeTag.1 ∈ pmW := pmW_tb (i := 413) (by decide +kernel) rfl
theorem se_mReading_takeTag : Cond.selects mReading_takeTag.1.cls mReading_takeTag.1 mReading_takeTag.1 ∈ pmW := pmW_sel (i := 10) (q := (mReading_takeTag.1, 16)) (by decide +kernel) rfl pmSelIn
def mReading_takePalette : pmMeth := (⟨"PortableFiles$Reading", "takePalette", "(I)Z"⟩, prog_8_method_14_code, 5, (some .boolean), [], 4, 2, 2, 42)
theorem ok_mReading_takePalette : pmOk mReading_takePalette := ⟨⟨pmW_tb (i := 425) (by decide +kernel) rfl, qI_Reading⟩, plainFor_of_name (by decide +kernel), by decide +kernel, by decide +kernel⟩
theorem im_mReading_takePalette : Cond.instanceMethod mReading_takePalette.1 ∈ pmW := pmW_tb (i := 424) (by decide +kernel) rfl
theorem se_mReading_takePalette : Cond.selects mReading_takePalette.1.cls mReading_takePalette.1 mReading_takePalette.1 ∈ pmW := pmW_sel (i := 11) (q := (mReading_takePalette.1, 16)) (by decide +kernel) rfl pmSelIn
def mReading_takeAlphas : pmMeth := (⟨"PortableFiles$Reading", "takeAlphas", "(I)Z"⟩, prog_8_method_15_code, 3, (some .boolean), [], 4, 2, 2, 43)
theorem ok_mReading_takeAlphas : pmOk mReading_takeAlphas := ⟨⟨pmW_tb (i := 442) (by decide +kernel) rfl, qI_Reading⟩, plainFor_of_name (by decide +kernel), by decide +kernel, by decide +kernel⟩
theorem im_mReading_takeAlphas : Cond.instanceMethod mReading_takeAlphas.1 ∈ pmW := pmW_tb (i := 441) (by decide +kernel) rfl
theorem se_mReading_takeAlphas : Cond.selects mReading_takeAlphas.1.cls mReading_takeAlphas.1 mReading_takeAlphas.1 ∈ pmW := pmW_sel (i := 12) (q := (mReading_takeAlphas.1, 16)) (by decide +kernel) rfl pmSelIn
def mReading_takeRows : pmMeth := (⟨"PortableFiles$Reading", "takeRows", "(I)Z"⟩, prog_8_method_16_code, 3, (some .boolean), [], 4, 2, 2, 42)
theorem ok_mReading_takeRows : pmOk mReading_takeRows := ⟨⟨pmW_tb (i := 454) (by decide +kernel) rfl, qI_Reading⟩, plainFor_of_name (by decide +kernel), by decide +kernel, by decide +kernel⟩
theorem im_mReading_takeRows : Cond.instanceMethod mReading_takeRows.1 ∈ pmW := pmW_tb (i := 453) (by decide +kernel) rfl
theorem se_mReading_takeRows : Cond.selects mReading_takeRows.1.cls mReading_takeRows.1 mReading_takeRows.1 ∈ pmW := pmW_sel (i := 13) (q := (mReading_takeRows.1, 16)) (by decide +kernel) rfl pmSelIn
def mReading_takeExtra : pmMeth := (⟨"PortableFiles$Reading", "takeExtra", "(I)Z"⟩, prog_8_method_17_code, 4, (some .boolean), [], 4, 2, 2, 43)
theorem ok_mReading_takeExtra : pmOk mReading_takeExtra := ⟨⟨pmW_tb (i := 462) (by decide +kernel) rfl, qI_Reading⟩, plainFor_of_name (by decide +kernel), by decide +kernel, by decide +kernel⟩
theorem im_mReading_takeExtra : Cond.instanceMethod mReading_takeExtra.1 ∈ pmW := pmW_tb (i := 461) (by decide +kernel) rfl
theorem se_mReading_takeExtra : Cond.selects mReading_takeExtra.1.cls mReading_takeExtra.1 mReading_takeExtra.1 ∈ pmW := pmW_sel (i := 14) (q := (mReading_takeExtra.1, 16)) (by decide +kernel) rfl pmSelIn
def mReading_end : pmMeth := (⟨"PortableFiles$Reading", "end", "()I"⟩, prog_8_method_18_code, 1, (some .int), [], 4, 1, 4, 99)
theorem ok_mReading_end : pmOk mReading_end := ⟨⟨pmW_tb (i := 483) (by decide +kernel) rfl, qI_Reading⟩, plainFor_of_name (by decide +kernel), by decide +kernel, by decide +kernel⟩
theorem im_mReading_end : Cond.instanceMethod mReading_end.1 ∈ pmW := pmW_tb (i := 482) (by decide +kernel) rfl
theorem se_mReading_end : Cond.selects mReading_end.1.cls mReading_end.1 mReading_end.1 ∈ pmW := pmW_sel (i := 15) (q := (mReading_end.1, 16)) (by decide +kernel) rfl pmSelIn
def mTags_init : pmMeth := (⟨"PortableFiles$Tags", "<init>", "()V"⟩, prog_11_method_1_code, 1, none, [], 5, 1, 1, 20)
theorem ok_mTags_init : pmOk mTags_init := ⟨⟨pmW_tb (i := 60) (by decide +kernel) rfl, qI_Tags⟩, plainFor_of_name (by decide +kernel), by decide +kernel, by decide +kernel⟩
theorem im_mTags_init : Cond.instanceMethod mTags_init.1 ∈ pmW := pmW_tb (i := 59) (by decide +kernel) rfl
def mTags_isTag : pmMeth := (⟨"PortableFiles$Tags", "isTag", "(I)Z"⟩, prog_11_method_2_code, 1, (some .boolean), [], 5, 1, 0, 0)
theorem ok_mTags_isTag : pmOk mTags_isTag := ⟨⟨pmW_tb (i := 359) (by decide +kernel) rfl, qI_Tags⟩, plainFor_of_name (by decide +kernel), by decide +kernel, by decide +kernel⟩
theorem st_mTags_isTag : Cond.static mTags_isTag.1 ∈ pmW := pmW_tb (i := 358) (by decide +kernel) rfl
def mTags_mayBe : pmMeth := (⟨"PortableFiles$Tags", "mayBe", "(II)Z"⟩, prog_11_method_3_code, 2, (some .boolean), [], 5, 2, 0, 0)
theorem ok_mTags_mayBe : pmOk mTags_mayBe := ⟨⟨pmW_tb (i := 417) (by decide +kernel) rfl, qI_Tags⟩, plainFor_of_name (by decide +kernel), by decide +kernel, by decide +kernel⟩
theorem st_mTags_mayBe : Cond.static mTags_mayBe.1 ∈ pmW := pmW_tb (i := 416) (by decide +kernel) rfl
def mTags_clear : pmMeth := (⟨"PortableFiles$Tags", "clear", "()V"⟩, prog_11_method_4_code, 1, none, [], 5, 1, 1, 23)
theorem ok_mTags_clear : pmOk mTags_clear := ⟨⟨pmW_tb (i := 405) (by decide +kernel) rfl, qI_Tags⟩, plainFor_of_name (by decide +kernel), by decide +kernel, by decide +kernel⟩
theorem im_mTags_clear : Cond.instanceMethod mTags_clear.1 ∈ pmW := pmW_tb (i := 403) (by decide +kernel) rfl
theorem se_mTags_clear : Cond.selects mTags_clear.1.cls mTags_clear.1 mTags_clear.1 ∈ pmW := pmW_tb (i := 404) (by decide +kernel) rfl
def mTags_has : pmMeth := (⟨"PortableFiles$Tags", "has", "(I)Z"⟩, prog_11_method_5_code, 2, (some .boolean), [], 5, 2, 2, 41)
theorem ok_mTags_has : pmOk mTags_has := ⟨⟨pmW_tb (i := 352) (by decide +kernel) rfl, qI_Tags⟩, plainFor_of_name (by decide +kernel), by decide +kernel, by decide +kernel⟩
theorem im_mTags_has : Cond.instanceMethod mTags_has.1 ∈ pmW := pmW_tb (i := 350) (by decide +kernel) rfl
theorem se_mTags_has : Cond.selects mTags_has.1.cls mTags_has.1 mTags_has.1 ∈ pmW := pmW_tb (i := 351) (by decide +kernel) rfl
def mTags_value : pmMeth := (⟨"PortableFiles$Tags", "value", "(I)I"⟩, prog_11_method_6_code, 2, (some .int), [], 5, 2, 1, 20)
theorem ok_mTags_value : pmOk mTags_value := ⟨⟨pmW_tb (i := 356) (by decide +kernel) rfl, qI_Tags⟩, plainFor_of_name (by decide +kernel), by decide +kernel, by decide +kernel⟩
theorem im_mTags_value : Cond.instanceMethod mTags_value.1 ∈ pmW := pmW_tb (i := 354) (by decide +kernel) rfl
theorem se_mTags_value : Cond.selects mTags_value.1.cls mTags_value.1 mTags_value.1 ∈ pmW := pmW_tb (i := 355) (by decide +kernel) rfl
def mTags_set : pmMeth := (⟨"PortableFiles$Tags", "set", "(II)V"⟩, prog_11_method_7_code, 3, none, [], 5, 3, 1, 20)
theorem ok_mTags_set : pmOk mTags_set := ⟨⟨pmW_tb (i := 421) (by decide +kernel) rfl, qI_Tags⟩, plainFor_of_name (by decide +kernel), by decide +kernel, by decide +kernel⟩
theorem im_mTags_set : Cond.instanceMethod mTags_set.1 ∈ pmW := pmW_tb (i := 419) (by decide +kernel) rfl
theorem se_mTags_set : Cond.selects mTags_set.1.cls mTags_set.1 mTags_set.1 ∈ pmW := pmW_tb (i := 420) (by decide +kernel) rfl
def mTags_copyFrom : pmMeth := (⟨"PortableFiles$Tags", "copyFrom", "(LPortableFiles$Tags;)V"⟩, prog_11_method_8_code, 2, none, [], 5, 2, 1, 26)
theorem ok_mTags_copyFrom : pmOk mTags_copyFrom := ⟨⟨pmW_tb (i := 1027) (by decide +kernel) rfl, qI_Tags⟩, plainFor_of_name (by decide +kernel), by decide +kernel, by decide +kernel⟩
theorem im_mTags_copyFrom : Cond.instanceMethod mTags_copyFrom.1 ∈ pmW := pmW_tb (i := 1025) (by decide +kernel) rfl
theorem se_mTags_copyFrom : Cond.selects mTags_copyFrom.1.cls mTags_copyFrom.1 mTags_copyFrom.1 ∈ pmW := pmW_tb (i := 1026) (by decide +kernel) rfl
def mWriting_init : pmMeth := (⟨"PortableFiles$Writing", "<init>", "()V"⟩, prog_12_method_1_code, 1, none, [], 6, 1, 2, 41)
theorem ok_mWriting_init : pmOk mWriting_init := ⟨⟨pmW_tb (i := 153) (by decide +kernel) rfl, qI_Writing⟩, plainFor_of_name (by decide +kernel), by decide +kernel, by decide +kernel⟩
theorem im_mWriting_init : Cond.instanceMethod mWriting_init.1 ∈ pmW := pmW_tb (i := 152) (by decide +kernel) rfl
def mWriting_run : pmMeth := (⟨"PortableFiles$Writing", "run", "(LPortableFiles$Picture;)V"⟩, prog_12_method_2_code, 2, none, [], 6, 2, 5, 118)
theorem ok_mWriting_run : pmOk mWriting_run := ⟨⟨pmW_tb (i := 820) (by decide +kernel) rfl, qI_Writing⟩, plainFor_of_name (by decide +kernel), by decide +kernel, by decide +kernel⟩
theorem im_mWriting_run : Cond.instanceMethod mWriting_run.1 ∈ pmW := pmW_tb (i := 818) (by decide +kernel) rfl
theorem se_mWriting_run : Cond.selects mWriting_run.1.cls mWriting_run.1 mWriting_run.1 ∈ pmW := pmW_tb (i := 819) (by decide +kernel) rfl
def mWriting_open : pmMeth := (⟨"PortableFiles$Writing", "open", "(I)V"⟩, prog_12_method_3_code, 2, none, [], 6, 2, 2, 42)
theorem ok_mWriting_open : pmOk mWriting_open := ⟨⟨pmW_tb (i := 835) (by decide +kernel) rfl, qI_Writing⟩, plainFor_of_name (by decide +kernel), by decide +kernel, by decide +kernel⟩
theorem im_mWriting_open : Cond.instanceMethod mWriting_open.1 ∈ pmW := pmW_tb (i := 834) (by decide +kernel) rfl
theorem se_mWriting_open : Cond.selects mWriting_open.1.cls mWriting_open.1 mWriting_open.1 ∈ pmW := pmW_sel (i := 20) (q := (mWriting_open.1, 3)) (by decide +kernel) rfl pmSelIn
def mWriting_close : pmMeth := (⟨"PortableFiles$Writing", "close", "()V"⟩, prog_12_method_4_code, 2, none, [], 6, 1, 3, 67)
theorem ok_mWriting_close : pmOk mWriting_close := ⟨⟨pmW_tb (i := 844) (by decide +kernel) rfl, qI_Writing⟩, plainFor_of_name (by decide +kernel), by decide +kernel, by decide +kernel⟩
theorem im_mWriting_close : Cond.instanceMethod mWriting_close.1 ∈ pmW := pmW_tb (i := 843) (by decide +kernel) rfl
theorem se_mWriting_close : Cond.selects mWriting_close.1.cls mWriting_close.1 mWriting_close.1 ∈ pmW := pmW_sel (i := 21) (q := (mWriting_close.1, 3)) (by decide +kernel) rfl pmSelIn
def mWriting_addHead : pmMeth := (⟨"PortableFiles$Writing", "addHead", "(LPortableFiles$Picture;)V"⟩, prog_12_method_5_code, 2, none, [], 6, 2, 4, 88)
theorem ok_mWriting_addHead : pmOk mWriting_addHead := ⟨⟨pmW_tb (i := 830) (by decide +kernel) rfl, qI_Writing⟩, plainFor_of_name (by decide +kernel), by decide +kernel, by decide +kernel⟩
theorem im_mWriting_addHead : Cond.instanceMethod mWriting_addHead.1 ∈ pmW := pmW_tb (i := 829) (by decide +kernel) rfl
theorem se_mWriting_addHead : Cond.selects mWriting_addHead.1.cls mWriting_addHead.1 mWriting_addHead.1 ∈ pmW := pmW_sel (i := 19) (q := (mWriting_addHead.1, 3)) (by decide +kernel) rfl pmSelIn
def mWriting_addTags : pmMeth := (⟨"PortableFiles$Writing", "addTags", "(LPortableFiles$Tags;)V"⟩, prog_12_method_6_code, 2, none, [], 6, 2, 4, 88)
theorem ok_mWriting_addTags : pmOk mWriting_addTags := ⟨⟨pmW_tb (i := 857) (by decide +kernel) rfl, qI_Writing⟩, plainFor_of_name (by decide +kernel), by decide +kernel, by decide +kernel⟩
theorem im_mWriting_addTags : Cond.instanceMethod mWriting_addTags.1 ∈ pmW := pmW_tb (i := 856) (by decide +kernel) rfl
theorem se_mWriting_addTags : Cond.selects mWriting_addTags.1.cls mWriting_addTags.1 mWriting_addTags.1 ∈ pmW := pmW_sel (i := 22) (q := (mWriting_addTags.1, 3)) (by decide +kernel) rfl pmSelIn
def mWriting_addPalette : pmMeth := (⟨"PortableFiles$Writing", "addPalette", "(LPortableFiles$Palette;)V"⟩, prog_12_method_7_code, 4, none, [], 6, 2, 4, 88)
theorem ok_mWriting_addPalette : pmOk mWriting_addPalette := ⟨⟨pmW_tb (i := 866) (by decide +kernel) rfl, qI_Writing⟩, plainFor_of_name (by decide +kernel), by decide +kernel, by decide +kernel⟩
theorem im_mWriting_addPalette : Cond.instanceMethod mWriting_addPalette.1 ∈ pmW := pmW_tb (i := 865) (by decide +kernel) rfl
theorem se_mWriting_addPalette : Cond.selects mWriting_addPalette.1.cls mWriting_addPalette.1 mWriting_addPalette.1 ∈ pmW := pmW_sel (i := 23) (q := (mWriting_addPalette.1, 3)) (by decide +kernel) rfl pmSelIn
def mWriting_addAlphas : pmMeth := (⟨"PortableFiles$Writing", "addAlphas", "(LPortableFiles$Palette;)V"⟩, prog_12_method_8_code, 4, none, [], 6, 2, 4, 88)
theorem ok_mWriting_addAlphas : pmOk mWriting_addAlphas := ⟨⟨pmW_tb (i := 875) (by decide +kernel) rfl, qI_Writing⟩, plainFor_of_name (by decide +kernel), by decide +kernel, by decide +kernel⟩
theorem im_mWriting_addAlphas : Cond.instanceMethod mWriting_addAlphas.1 ∈ pmW := pmW_tb (i := 874) (by decide +kernel) rfl
theorem se_mWriting_addAlphas : Cond.selects mWriting_addAlphas.1.cls mWriting_addAlphas.1 mWriting_addAlphas.1 ∈ pmW := pmW_sel (i := 24) (q := (mWriting_addAlphas.1, 3)) (by decide +kernel) rfl pmSelIn
def mWriting_addRows : pmMeth := (⟨"PortableFiles$Writing", "addRows", "(LPortableFiles$Picture;)V"⟩, prog_12_method_9_code, 5, none, [], 6, 2, 4, 94)
theorem ok_mWriting_addRows : pmOk mWriting_addRows := ⟨⟨pmW_tb (i := 885) (by decide +kernel) rfl, qI_Writing⟩, plainFor_of_name (by decide +kernel), by decide +kernel, by decide +kernel⟩
theorem im_mWriting_addRows : Cond.instanceMethod mWriting_addRows.1 ∈ pmW := pmW_tb (i := 884) (by decide +kernel) rfl
theorem se_mWriting_addRows : Cond.selects mWriting_addRows.1.cls mWriting_addRows.1 mWriting_addRows.1 ∈ pmW := pmW_sel (i := 25) (q := (mWriting_addRows.1, 3)) (by decide +kernel) rfl pmSelIn
def mWriting_addExtras : pmMeth := (⟨"PortableFiles$Writing", "addExtras", "(LPortableFiles$Extras;)V"⟩, prog_12_method_10_code, 4, none, [], 6, 2, 4, 88)
theorem ok_mWriting_addExtras : pmOk mWriting_addExtras := ⟨⟨pmW_tb (i := 901) (by decide +kernel) rfl, qI_Writing⟩, plainFor_of_name (by decide +kernel), by decide +kernel, by decide +kernel⟩
theorem im_mWriting_addExtras : Cond.instanceMethod mWriting_addExtras.1 ∈ pmW := pmW_tb (i := 900) (by decide +kernel) rfl
theorem se_mWriting_addExtras : Cond.selects mWriting_addExtras.1.cls mWriting_addExtras.1 mWriting_addExtras.1 ∈ pmW := pmW_sel (i := 26) (q := (mWriting_addExtras.1, 3)) (by decide +kernel) rfl pmSelIn
def mPF_init : pmMeth := (⟨"PortableFiles", "<init>", "()V"⟩, prog_1_method_1_code, 1, none, [], 7, 1, 4, 80)
theorem ok_mPF_init : pmOk mPF_init := ⟨⟨pmW_tb (i := 28) (by decide +kernel) rfl, qI_PF⟩, plainFor_of_name (by decide +kernel), by decide +kernel, by decide +kernel⟩
theorem im_mPF_init : Cond.instanceMethod mPF_init.1 ∈ pmW := pmW_tb (i := 27) (by decide +kernel) rfl
def mPF_head : pmMeth := (⟨"PortableFiles", "head", "(IIII)V"⟩, prog_1_method_2_code, 5, none, [], 7, 5, 6, 90)
theorem ok_mPF_head : pmOk mPF_head := ⟨⟨pmW_tb (i := 537) (by decide +kernel) rfl, qI_PF⟩, plainFor_of_name (by decide +kernel), by decide +kernel, by decide +kernel⟩
theorem im_mPF_head : Cond.instanceMethod mPF_head.1 ∈ pmW := pmW_tb (i := 535) (by decide +kernel) rfl
theorem se_mPF_head : Cond.selects mPF_head.1.cls mPF_head.1 mPF_head.1 ∈ pmW := pmW_tb (i := 536) (by decide +kernel) rfl
def mPF_colour : pmMeth := (⟨"PortableFiles", "colour", "(IIII)I"⟩, prog_1_method_3_code, 5, (some .int), [], 7, 5, 6, 90)
theorem ok_mPF_colour : pmOk mPF_colour := ⟨⟨pmW_tb (i := 617) (by decide +kernel) rfl, qI_PF⟩, plainFor_of_name (by decide +kernel), by decide +kernel, by decide +kernel⟩
theorem im_mPF_colour : Cond.instanceMethod mPF_colour.1 ∈ pmW := pmW_tb (i := 615) (by decide +kernel) rfl
theorem se_mPF_colour : Cond.selects mPF_colour.1.cls mPF_colour.1 mPF_colour.1 ∈ pmW := pmW_tb (i := 616) (by decide +kernel) rfl
def mPF_put : pmMeth := (⟨"PortableFiles", "put", "(IIII)I"⟩, prog_1_method_4_code, 6, (some .int), [], 7, 5, 7, 110)
theorem ok_mPF_put : pmOk mPF_put := ⟨⟨pmW_tb (i := 681) (by decide +kernel) rfl, qI_PF⟩, plainFor_of_name (by decide +kernel), by decide +kernel, by decide +kernel⟩
theorem im_mPF_put : Cond.instanceMethod mPF_put.1 ∈ pmW := pmW_tb (i := 679) (by decide +kernel) rfl
theorem se_mPF_put : Cond.selects mPF_put.1.cls mPF_put.1 mPF_put.1 ∈ pmW := pmW_tb (i := 680) (by decide +kernel) rfl
def mPF_tag : pmMeth := (⟨"PortableFiles", "tag", "(II)I"⟩, prog_1_method_5_code, 4, (some .int), [], 7, 3, 7, 110)
theorem ok_mPF_tag : pmOk mPF_tag := ⟨⟨pmW_tb (i := 717) (by decide +kernel) rfl, qI_PF⟩, plainFor_of_name (by decide +kernel), by decide +kernel, by decide +kernel⟩
theorem im_mPF_tag : Cond.instanceMethod mPF_tag.1 ∈ pmW := pmW_tb (i := 715) (by decide +kernel) rfl
theorem se_mPF_tag : Cond.selects mPF_tag.1.cls mPF_tag.1 mPF_tag.1 ∈ pmW := pmW_tb (i := 716) (by decide +kernel) rfl
def mPF_extra : pmMeth := (⟨"PortableFiles", "extra", "(I)I"⟩, prog_1_method_6_code, 2, (some .int), [], 7, 2, 7, 110)
theorem ok_mPF_extra : pmOk mPF_extra := ⟨⟨pmW_tb (i := 730) (by decide +kernel) rfl, qI_PF⟩, plainFor_of_name (by decide +kernel), by decide +kernel, by decide +kernel⟩
theorem im_mPF_extra : Cond.instanceMethod mPF_extra.1 ∈ pmW := pmW_tb (i := 728) (by decide +kernel) rfl
theorem se_mPF_extra : Cond.selects mPF_extra.1.cls mPF_extra.1 mPF_extra.1 ∈ pmW := pmW_tb (i := 729) (by decide +kernel) rfl
def mPF_byteOf : pmMeth := (⟨"PortableFiles", "byteOf", "(II)I"⟩, prog_1_method_7_code, 3, (some .int), [], 7, 3, 7, 110)
theorem ok_mPF_byteOf : pmOk mPF_byteOf := ⟨⟨pmW_tb (i := 750) (by decide +kernel) rfl, qI_PF⟩, plainFor_of_name (by decide +kernel), by decide +kernel, by decide +kernel⟩
theorem im_mPF_byteOf : Cond.instanceMethod mPF_byteOf.1 ∈ pmW := pmW_tb (i := 748) (by decide +kernel) rfl
theorem se_mPF_byteOf : Cond.selects mPF_byteOf.1.cls mPF_byteOf.1 mPF_byteOf.1 ∈ pmW := pmW_tb (i := 749) (by decide +kernel) rfl
def mPF_reduce : pmMeth := (⟨"PortableFiles", "reduce", "()I"⟩, prog_1_method_8_code, 1, (some .int), [], 7, 1, 7, 114)
theorem ok_mPF_reduce : pmOk mPF_reduce := ⟨⟨pmW_tb (i := 769) (by decide +kernel) rfl, qI_PF⟩, plainFor_of_name (by decide +kernel), by decide +kernel, by decide +kernel⟩
theorem im_mPF_reduce : Cond.instanceMethod mPF_reduce.1 ∈ pmW := pmW_tb (i := 767) (by decide +kernel) rfl
theorem se_mPF_reduce : Cond.selects mPF_reduce.1.cls mPF_reduce.1 mPF_reduce.1 ∈ pmW := pmW_tb (i := 768) (by decide +kernel) rfl
def mPF_write : pmMeth := (⟨"PortableFiles", "write", "()I"⟩, prog_1_method_9_code, 1, (some .int), [], 7, 1, 7, 139)
theorem ok_mPF_write : pmOk mPF_write := ⟨⟨pmW_tb (i := 815) (by decide +kernel) rfl, qI_PF⟩, plainFor_of_name (by decide +kernel), by decide +kernel, by decide +kernel⟩
theorem im_mPF_write : Cond.instanceMethod mPF_write.1 ∈ pmW := pmW_tb (i := 813) (by decide +kernel) rfl
theorem se_mPF_write : Cond.selects mPF_write.1.cls mPF_write.1 mPF_write.1 ∈ pmW := pmW_tb (i := 814) (by decide +kernel) rfl
def mPF_byteAt : pmMeth := (⟨"PortableFiles", "byteAt", "(I)I"⟩, prog_1_method_10_code, 2, (some .int), [], 7, 2, 7, 111)
theorem ok_mPF_byteAt : pmOk mPF_byteAt := ⟨⟨pmW_tb (i := 919) (by decide +kernel) rfl, qI_PF⟩, plainFor_of_name (by decide +kernel), by decide +kernel, by decide +kernel⟩
theorem im_mPF_byteAt : Cond.instanceMethod mPF_byteAt.1 ∈ pmW := pmW_tb (i := 917) (by decide +kernel) rfl
theorem se_mPF_byteAt : Cond.selects mPF_byteAt.1.cls mPF_byteAt.1 mPF_byteAt.1 ∈ pmW := pmW_tb (i := 918) (by decide +kernel) rfl
def mPF_feed : pmMeth := (⟨"PortableFiles", "feed", "(I)I"⟩, prog_1_method_11_code, 2, (some .int), [], 7, 2, 7, 111)
theorem ok_mPF_feed : pmOk mPF_feed := ⟨⟨pmW_tb (i := 933) (by decide +kernel) rfl, qI_PF⟩, plainFor_of_name (by decide +kernel), by decide +kernel, by decide +kernel⟩
theorem im_mPF_feed : Cond.instanceMethod mPF_feed.1 ∈ pmW := pmW_tb (i := 931) (by decide +kernel) rfl
theorem se_mPF_feed : Cond.selects mPF_feed.1.cls mPF_feed.1 mPF_feed.1 ∈ pmW := pmW_tb (i := 932) (by decide +kernel) rfl
def mPF_pass : pmMeth := (⟨"PortableFiles", "pass", "(II)I"⟩, prog_1_method_12_code, 5, (some .int), [], 7, 3, 7, 111)
theorem ok_mPF_pass : pmOk mPF_pass := ⟨⟨pmW_tb (i := 946) (by decide +kernel) rfl, qI_PF⟩, plainFor_of_name (by decide +kernel), by decide +kernel, by decide +kernel⟩
theorem im_mPF_pass : Cond.instanceMethod mPF_pass.1 ∈ pmW := pmW_tb (i := 944) (by decide +kernel) rfl
theorem se_mPF_pass : Cond.selects mPF_pass.1.cls mPF_pass.1 mPF_pass.1 ∈ pmW := pmW_tb (i := 945) (by decide +kernel) rfl
def mPF_alter : pmMeth := (⟨"PortableFiles", "alter", "(IIZ)I"⟩, prog_1_method_13_code, 5, (some .int), [], 7, 4, 7, 110)
theorem ok_mPF_alter : pmOk mPF_alter := ⟨⟨pmW_tb (i := 955) (by decide +kernel) rfl, qI_PF⟩, plainFor_of_name (by decide +kernel), by decide +kernel, by decide +kernel⟩
theorem im_mPF_alter : Cond.instanceMethod mPF_alter.1 ∈ pmW := pmW_tb (i := 953) (by decide +kernel) rfl
theorem se_mPF_alter : Cond.selects mPF_alter.1.cls mPF_alter.1 mPF_alter.1 ∈ pmW := pmW_tb (i := 954) (by decide +kernel) rfl
def mPF_read : pmMeth := (⟨"PortableFiles", "read", "()I"⟩, prog_1_method_14_code, 1, (some .int), [], 7, 1, 7, 155)
theorem ok_mPF_read : pmOk mPF_read := ⟨⟨pmW_tb (i := 260) (by decide +kernel) rfl, qI_PF⟩, plainFor_of_name (by decide +kernel), by decide +kernel, by decide +kernel⟩
theorem im_mPF_read : Cond.instanceMethod mPF_read.1 ∈ pmW := pmW_tb (i := 258) (by decide +kernel) rfl
theorem se_mPF_read : Cond.selects mPF_read.1.cls mPF_read.1 mPF_read.1 ∈ pmW := pmW_tb (i := 259) (by decide +kernel) rfl
def mPF_at : pmMeth := (⟨"PortableFiles", "at", "(III)I"⟩, prog_1_method_15_code, 4, (some .int), [], 7, 4, 7, 110)
theorem ok_mPF_at : pmOk mPF_at := ⟨⟨pmW_tb (i := 971) (by decide +kernel) rfl, qI_PF⟩, plainFor_of_name (by decide +kernel), by decide +kernel, by decide +kernel⟩
theorem im_mPF_at : Cond.instanceMethod mPF_at.1 ∈ pmW := pmW_tb (i := 969) (by decide +kernel) rfl
theorem se_mPF_at : Cond.selects mPF_at.1.cls mPF_at.1 mPF_at.1 ∈ pmW := pmW_tb (i := 970) (by decide +kernel) rfl
def mPF_found : pmMeth := (⟨"PortableFiles", "found", "(I)I"⟩, prog_1_method_16_code, 2, (some .int), [], 7, 2, 7, 110)
theorem ok_mPF_found : pmOk mPF_found := ⟨⟨pmW_tb (i := 984) (by decide +kernel) rfl, qI_PF⟩, plainFor_of_name (by decide +kernel), by decide +kernel, by decide +kernel⟩
theorem im_mPF_found : Cond.instanceMethod mPF_found.1 ∈ pmW := pmW_tb (i := 982) (by decide +kernel) rfl
theorem se_mPF_found : Cond.selects mPF_found.1.cls mPF_found.1 mPF_found.1 ∈ pmW := pmW_tb (i := 983) (by decide +kernel) rfl
def mPF_entry : pmMeth := (⟨"PortableFiles", "entry", "(II)I"⟩, prog_1_method_17_code, 3, (some .int), [], 7, 3, 7, 110)
theorem ok_mPF_entry : pmOk mPF_entry := ⟨⟨pmW_tb (i := 991) (by decide +kernel) rfl, qI_PF⟩, plainFor_of_name (by decide +kernel), by decide +kernel, by decide +kernel⟩
theorem im_mPF_entry : Cond.instanceMethod mPF_entry.1 ∈ pmW := pmW_tb (i := 989) (by decide +kernel) rfl
theorem se_mPF_entry : Cond.selects mPF_entry.1.cls mPF_entry.1 mPF_entry.1 ∈ pmW := pmW_tb (i := 990) (by decide +kernel) rfl
def mPF_unknown : pmMeth := (⟨"PortableFiles", "unknown", "(II)I"⟩, prog_1_method_18_code, 4, (some .int), [], 7, 3, 7, 110)
theorem ok_mPF_unknown : pmOk mPF_unknown := ⟨⟨pmW_tb (i := 1002) (by decide +kernel) rfl, qI_PF⟩, plainFor_of_name (by decide +kernel), by decide +kernel, by decide +kernel⟩
theorem im_mPF_unknown : Cond.instanceMethod mPF_unknown.1 ∈ pmW := pmW_tb (i := 1000) (by decide +kernel) rfl
theorem se_mPF_unknown : Cond.selects mPF_unknown.1.cls mPF_unknown.1 mPF_unknown.1 ∈ pmW := pmW_tb (i := 1001) (by decide +kernel) rfl
def mPF_take : pmMeth := (⟨"PortableFiles", "take", "()V"⟩, prog_1_method_19_code, 1, none, [], 7, 1, 7, 110)
theorem ok_mPF_take : pmOk mPF_take := ⟨⟨pmW_tb (i := 1013) (by decide +kernel) rfl, qI_PF⟩, plainFor_of_name (by decide +kernel), by decide +kernel, by decide +kernel⟩
theorem im_mPF_take : Cond.instanceMethod mPF_take.1 ∈ pmW := pmW_tb (i := 1011) (by decide +kernel) rfl
theorem se_mPF_take : Cond.selects mPF_take.1.cls mPF_take.1 mPF_take.1 ∈ pmW := pmW_tb (i := 1012) (by decide +kernel) rfl
def mPF_told : pmMeth := (⟨"PortableFiles", "told", "(I)I"⟩, prog_1_method_20_code, 2, (some .int), [], 7, 2, 0, 0)
theorem ok_mPF_told : pmOk mPF_told := ⟨⟨pmW_tb (i := 524) (by decide +kernel) rfl, qI_PF⟩, plainFor_of_name (by decide +kernel), by decide +kernel, by decide +kernel⟩
theorem im_mPF_told : Cond.instanceMethod mPF_told.1 ∈ pmW := pmW_tb (i := 522) (by decide +kernel) rfl
theorem se_mPF_told : Cond.selects mPF_told.1.cls mPF_told.1 mPF_told.1 ∈ pmW := pmW_tb (i := 523) (by decide +kernel) rfl
def mPF_drop : pmMeth := (⟨"PortableFiles", "drop", "()V"⟩, prog_1_method_21_code, 1, none, [], 7, 1, 1, 20)
theorem ok_mPF_drop : pmOk mPF_drop := ⟨⟨pmW_tb (i := 528) (by decide +kernel) rfl, qI_PF⟩, plainFor_of_name (by decide +kernel), by decide +kernel, by decide +kernel⟩
theorem im_mPF_drop : Cond.instanceMethod mPF_drop.1 ∈ pmW := pmW_tb (i := 526) (by decide +kernel) rfl
theorem se_mPF_drop : Cond.selects mPF_drop.1.cls mPF_drop.1 mPF_drop.1 ∈ pmW := pmW_tb (i := 527) (by decide +kernel) rfl
def mPF_needPicture : pmMeth := (⟨"PortableFiles", "needPicture", "()V"⟩, prog_1_method_22_code, 1, none, [], 7, 1, 6, 90)
theorem ok_mPF_needPicture : pmOk mPF_needPicture := ⟨⟨pmW_tb (i := 685) (by decide +kernel) rfl, qI_PF⟩, plainFor_of_name (by decide +kernel), by decide +kernel, by decide +kernel⟩
theorem im_mPF_needPicture : Cond.instanceMethod mPF_needPicture.1 ∈ pmW := pmW_tb (i := 684) (by decide +kernel) rfl
theorem se_mPF_needPicture : Cond.selects mPF_needPicture.1.cls mPF_needPicture.1 mPF_needPicture.1 ∈ pmW := pmW_sel (i := 18) (q := (mPF_needPicture.1, 3)) (by decide +kernel) rfl pmSelIn
def mPF_needReading : pmMeth := (⟨"PortableFiles", "needReading", "()V"⟩, prog_1_method_23_code, 1, none, [], 7, 1, 6, 90)
theorem ok_mPF_needReading : pmOk mPF_needReading := ⟨⟨pmW_tb (i := 975) (by decide +kernel) rfl, qI_PF⟩, plainFor_of_name (by decide +kernel), by decide +kernel, by decide +kernel⟩
theorem im_mPF_needReading : Cond.instanceMethod mPF_needReading.1 ∈ pmW := pmW_tb (i := 974) (by decide +kernel) rfl
theorem se_mPF_needReading : Cond.selects mPF_needReading.1.cls mPF_needReading.1 mPF_needReading.1 ∈ pmW := pmW_sel (i := 29) (q := (mPF_needReading.1, 3)) (by decide +kernel) rfl pmSelIn
def mPF_needWritten : pmMeth := (⟨"PortableFiles", "needWritten", "(I)V"⟩, prog_1_method_24_code, 2, none, [], 7, 2, 6, 90)
theorem ok_mPF_needWritten : pmOk mPF_needWritten := ⟨⟨pmW_tb (i := 923) (by decide +kernel) rfl, qI_PF⟩, plainFor_of_name (by decide +kernel), by decide +kernel, by decide +kernel⟩
theorem im_mPF_needWritten : Cond.instanceMethod mPF_needWritten.1 ∈ pmW := pmW_tb (i := 922) (by decide +kernel) rfl
theorem se_mPF_needWritten : Cond.selects mPF_needWritten.1.cls mPF_needWritten.1 mPF_needWritten.1 ∈ pmW := pmW_sel (i := 27) (q := (mPF_needWritten.1, 3)) (by decide +kernel) rfl pmSelIn
def mPF_needRoom : pmMeth := (⟨"PortableFiles", "needRoom", "(I)V"⟩, prog_1_method_25_code, 2, none, [], 7, 2, 6, 90)
theorem ok_mPF_needRoom : pmOk mPF_needRoom := ⟨⟨pmW_tb (i := 937) (by decide +kernel) rfl, qI_PF⟩, plainFor_of_name (by decide +kernel), by decide +kernel, by decide +kernel⟩
theorem im_mPF_needRoom : Cond.instanceMethod mPF_needRoom.1 ∈ pmW := pmW_tb (i := 936) (by decide +kernel) rfl
theorem se_mPF_needRoom : Cond.selects mPF_needRoom.1.cls mPF_needRoom.1 mPF_needRoom.1 ∈ pmW := pmW_sel (i := 28) (q := (mPF_needRoom.1, 3)) (by decide +kernel) rfl pmSelIn
def mPF_needByte : pmMeth := (⟨"PortableFiles", "needByte", "(I)V"⟩, prog_1_method_26_code, 1, none, [], 7, 1, 6, 90)
theorem ok_mPF_needByte : pmOk mPF_needByte := ⟨⟨pmW_tb (i := 755) (by decide +kernel) rfl, qI_PF⟩, plainFor_of_name (by decide +kernel), by decide +kernel, by decide +kernel⟩
theorem st_mPF_needByte : Cond.static mPF_needByte.1 ∈ pmW := pmW_tb (i := 754) (by decide +kernel) rfl
def mPF_isByte : pmMeth := (⟨"PortableFiles", "isByte", "(I)Z"⟩, prog_1_method_27_code, 1, (some .boolean), [], 7, 1, 0, 0)
theorem ok_mPF_isByte : pmOk mPF_isByte := ⟨⟨pmW_tb (i := 636) (by decide +kernel) rfl, qI_PF⟩, plainFor_of_name (by decide +kernel), by decide +kernel, by decide +kernel⟩
theorem st_mPF_isByte : Cond.static mPF_isByte.1 ∈ pmW := pmW_tb (i := 635) (by decide +kernel) rfl
def mRef_init : pmMeth := (⟨"PortableFilesModel", "<init>", "()V"⟩, prog_14_method_1_code, 1, none, [], 8, 1, 1, 20)
theorem ok_mRef_init : pmOk mRef_init := ⟨⟨pmW_tb (i := 1037) (by decide +kernel) rfl, qI_Ref⟩, plainFor_of_name (by decide +kernel), by decide +kernel, by decide +kernel⟩
theorem im_mRef_init : Cond.instanceMethod mRef_init.1 ∈ pmW := pmW_tb (i := 1036) (by decide +kernel) rfl
def mRef_thrown : pmMeth := (⟨"PortableFilesModel", "thrown", "()I"⟩, prog_14_method_2_code, 1, (some .int), [], 8, 1, 0, 0)
theorem ok_mRef_thrown : pmOk mRef_thrown := ⟨⟨pmW_tb (i := 1170) (by decide +kernel) rfl, qI_Ref⟩, plainFor_of_name (by decide +kernel), by decide +kernel, by decide +kernel⟩
theorem im_mRef_thrown : Cond.instanceMethod mRef_thrown.1 ∈ pmW := pmW_tb (i := 1168) (by decide +kernel) rfl
theorem se_mRef_thrown : Cond.selects mRef_thrown.1.cls mRef_thrown.1 mRef_thrown.1 ∈ pmW := pmW_tb (i := 1169) (by decide +kernel) rfl
def mRef_isGood : pmMeth := (⟨"PortableFilesModel", "isGood", "(IIII)Z"⟩, prog_14_method_3_code, 6, (some .boolean), [], 8, 4, 0, 0)
theorem ok_mRef_isGood : pmOk mRef_isGood := ⟨⟨pmW_tb (i := 1177) (by decide +kernel) rfl, qI_Ref⟩, plainFor_of_name (by decide +kernel), by decide +kernel, by decide +kernel⟩
theorem st_mRef_isGood : Cond.static mRef_isGood.1 ∈ pmW := pmW_tb (i := 1176) (by decide +kernel) rfl
def mRef_channelsOf : pmMeth := (⟨"PortableFilesModel", "channelsOf", "(I)I"⟩, prog_14_method_4_code, 1, (some .int), [], 8, 1, 0, 0)
theorem ok_mRef_channelsOf : pmOk mRef_channelsOf := ⟨⟨pmW_tb (i := 1198) (by decide +kernel) rfl, qI_Ref⟩, plainFor_of_name (by decide +kernel), by decide +kernel, by decide +kernel⟩
theorem st_mRef_channelsOf : Cond.static mRef_channelsOf.1 ∈ pmW := pmW_tb (i := 1197) (by decide +kernel) rfl
def mRef_mostEntries : pmMeth := (⟨"PortableFilesModel", "mostEntries", "(I)I"⟩, prog_14_method_5_code, 1, (some .int), [], 8, 1, 0, 0)
theorem ok_mRef_mostEntries : pmOk mRef_mostEntries := ⟨⟨pmW_tb (i := 1187) (by decide +kernel) rfl, qI_Ref⟩, plainFor_of_name (by decide +kernel), by decide +kernel, by decide +kernel⟩
theorem st_mRef_mostEntries : Cond.static mRef_mostEntries.1 ∈ pmW := pmW_tb (i := 1186) (by decide +kernel) rfl
def mRef_head : pmMeth := (⟨"PortableFilesModel", "head", "(IIII)V"⟩, prog_14_method_6_code, 6, none, [], 8, 5, 1, 25)
theorem ok_mRef_head : pmOk mRef_head := ⟨⟨pmW_tb (i := 1174) (by decide +kernel) rfl, qI_Ref⟩, plainFor_of_name (by decide +kernel), by decide +kernel, by decide +kernel⟩
theorem im_mRef_head : Cond.instanceMethod mRef_head.1 ∈ pmW := pmW_tb (i := 1172) (by decide +kernel) rfl
theorem se_mRef_head : Cond.selects mRef_head.1.cls mRef_head.1 mRef_head.1 ∈ pmW := pmW_tb (i := 1173) (by decide +kernel) rfl
def mRef_isByte : pmMeth := (⟨"PortableFilesModel", "isByte", "(I)Z"⟩, prog_14_method_7_code, 1, (some .boolean), [], 8, 1, 0, 0)
theorem ok_mRef_isByte : pmOk mRef_isByte := ⟨⟨pmW_tb (i := 1184) (by decide +kernel) rfl, qI_Ref⟩, plainFor_of_name (by decide +kernel), by decide +kernel, by decide +kernel⟩
theorem st_mRef_isByte : Cond.static mRef_isByte.1 ∈ pmW := pmW_tb (i := 1183) (by decide +kernel) rfl
def mRef_change : pmMeth := (⟨"PortableFilesModel", "change", "()V"⟩, prog_14_method_8_code, 4, none, [], 8, 1, 0, 0)
theorem ok_mRef_change : pmOk mRef_change := ⟨⟨pmW_tb (i := 1191) (by decide +kernel) rfl, qI_Ref⟩, plainFor_of_name (by decide +kernel), by decide +kernel, by decide +kernel⟩
theorem im_mRef_change : Cond.instanceMethod mRef_change.1 ∈ pmW := pmW_tb (i := 1190) (by decide +kernel) rfl
theorem se_mRef_change : Cond.selects mRef_change.1.cls mRef_change.1 mRef_change.1 ∈ pmW := pmW_sel (i := 30) (q := (mRef_change.1, 42)) (by decide +kernel) rfl pmSelIn
def mRef_colour : pmMeth := (⟨"PortableFilesModel", "colour", "(IIII)I"⟩, prog_14_method_9_code, 5, (some .int), [], 8, 5, 1, 23)
theorem ok_mRef_colour : pmOk mRef_colour := ⟨⟨pmW_tb (i := 1181) (by decide +kernel) rfl, qI_Ref⟩, plainFor_of_name (by decide +kernel), by decide +kernel, by decide +kernel⟩
theorem im_mRef_colour : Cond.instanceMethod mRef_colour.1 ∈ pmW := pmW_tb (i := 1179) (by decide +kernel) rfl
theorem se_mRef_colour : Cond.selects mRef_colour.1.cls mRef_colour.1 mRef_colour.1 ∈ pmW := pmW_tb (i := 1180) (by decide +kernel) rfl
def mRef_put : pmMeth := (⟨"PortableFilesModel", "put", "(IIII)I"⟩, prog_14_method_10_code, 7, (some .int), [], 8, 5, 1, 23)
theorem ok_mRef_put : pmOk mRef_put := ⟨⟨pmW_tb (i := 1195) (by decide +kernel) rfl, qI_Ref⟩, plainFor_of_name (by decide +kernel), by decide +kernel, by decide +kernel⟩
theorem im_mRef_put : Cond.instanceMethod mRef_put.1 ∈ pmW := pmW_tb (i := 1193) (by decide +kernel) rfl
theorem se_mRef_put : Cond.selects mRef_put.1.cls mRef_put.1 mRef_put.1 ∈ pmW := pmW_tb (i := 1194) (by decide +kernel) rfl
def mRef_mayBe : pmMeth := (⟨"PortableFilesModel", "mayBe", "(IJ)Z"⟩, prog_14_method_11_code, 3, (some .boolean), [], 8, 2, 0, 0)
theorem ok_mRef_mayBe : pmOk mRef_mayBe := ⟨⟨pmW_tb (i := 1205) (by decide +kernel) rfl, qI_Ref⟩, plainFor_of_name (by decide +kernel), by decide +kernel, by decide +kernel⟩
theorem st_mRef_mayBe : Cond.static mRef_mayBe.1 ∈ pmW := pmW_tb (i := 1204) (by decide +kernel) rfl
def mRef_tag : pmMeth := (⟨"PortableFilesModel", "tag", "(II)I"⟩, prog_14_method_12_code, 4, (some .int), [], 8, 3, 1, 22)
theorem ok_mRef_tag : pmOk mRef_tag := ⟨⟨pmW_tb (i := 1202) (by decide +kernel) rfl, qI_Ref⟩, plainFor_of_name (by decide +kernel), by decide +kernel, by decide +kernel⟩
theorem im_mRef_tag : Cond.instanceMethod mRef_tag.1 ∈ pmW := pmW_tb (i := 1200) (by decide +kernel) rfl
theorem se_mRef_tag : Cond.selects mRef_tag.1.cls mRef_tag.1 mRef_tag.1 ∈ pmW := pmW_tb (i := 1201) (by decide +kernel) rfl
def mRef_isGreat : pmMeth := (⟨"PortableFilesModel", "isGreat", "(I)Z"⟩, prog_14_method_13_code, 1, (some .boolean), [], 8, 1, 0, 0)
theorem ok_mRef_isGreat : pmOk mRef_isGreat := ⟨⟨pmW_tb (i := 1223) (by decide +kernel) rfl, qI_Ref⟩, plainFor_of_name (by decide +kernel), by decide +kernel, by decide +kernel⟩
theorem st_mRef_isGreat : Cond.static mRef_isGreat.1 ∈ pmW := pmW_tb (i := 1222) (by decide +kernel) rfl
def mRef_isSmall : pmMeth := (⟨"PortableFilesModel", "isSmall", "(I)Z"⟩, prog_14_method_14_code, 1, (some .boolean), [], 8, 1, 0, 0)
theorem ok_mRef_isSmall : pmOk mRef_isSmall := ⟨⟨pmW_tb (i := 1226) (by decide +kernel) rfl, qI_Ref⟩, plainFor_of_name (by decide +kernel), by decide +kernel, by decide +kernel⟩
theorem st_mRef_isSmall : Cond.static mRef_isSmall.1 ∈ pmW := pmW_tb (i := 1225) (by decide +kernel) rfl
def mRef_letter : pmMeth := (⟨"PortableFilesModel", "letter", "(II)I"⟩, prog_14_method_15_code, 2, (some .int), [], 8, 2, 0, 0)
theorem ok_mRef_letter : pmOk mRef_letter := ⟨⟨pmW_tb (i := 1220) (by decide +kernel) rfl, qI_Ref⟩, plainFor_of_name (by decide +kernel), by decide +kernel, by decide +kernel⟩
theorem st_mRef_letter : Cond.static mRef_letter.1 ∈ pmW := pmW_tb (i := 1219) (by decide +kernel) rfl
def mRef_areLetters : pmMeth := (⟨"PortableFilesModel", "areLetters", "(I)Z"⟩, prog_14_method_16_code, 3, (some .boolean), [], 8, 1, 1, 21)
theorem ok_mRef_areLetters : pmOk mRef_areLetters := ⟨⟨pmW_tb (i := 1217) (by decide +kernel) rfl, qI_Ref⟩, plainFor_of_name (by decide +kernel), by decide +kernel, by decide +kernel⟩
theorem st_mRef_areLetters : Cond.static mRef_areLetters.1 ∈ pmW := pmW_tb (i := 1216) (by decide +kernel) rfl
def mRef_isOfOthers : pmMeth := (⟨"PortableFilesModel", "isOfOthers", "(I)Z"⟩, prog_14_method_17_code, 1, (some .boolean), [], 8, 1, 2, 43)
theorem ok_mRef_isOfOthers : pmOk mRef_isOfOthers := ⟨⟨pmW_tb (i := 1214) (by decide +kernel) rfl, qI_Ref⟩, plainFor_of_name (by decide +kernel), by decide +kernel, by decide +kernel⟩
theorem st_mRef_isOfOthers : Cond.static mRef_isOfOthers.1 ∈ pmW := pmW_tb (i := 1213) (by decide +kernel) rfl
def mRef_extra : pmMeth := (⟨"PortableFilesModel", "extra", "(I)I"⟩, prog_14_method_18_code, 2, (some .int), [], 8, 2, 3, 63)
theorem ok_mRef_extra : pmOk mRef_extra := ⟨⟨pmW_tb (i := 1211) (by decide +kernel) rfl, qI_Ref⟩, plainFor_of_name (by decide +kernel), by decide +kernel, by decide +kernel⟩
theorem im_mRef_extra : Cond.instanceMethod mRef_extra.1 ∈ pmW := pmW_tb (i := 1209) (by decide +kernel) rfl
theorem se_mRef_extra : Cond.selects mRef_extra.1.cls mRef_extra.1 mRef_extra.1 ∈ pmW := pmW_tb (i := 1210) (by decide +kernel) rfl
def mRef_byteOf : pmMeth := (⟨"PortableFilesModel", "byteOf", "(II)I"⟩, prog_14_method_19_code, 3, (some .int), [], 8, 3, 1, 20)
theorem ok_mRef_byteOf : pmOk mRef_byteOf := ⟨⟨pmW_tb (i := 1234) (by decide +kernel) rfl, qI_Ref⟩, plainFor_of_name (by decide +kernel), by decide +kernel, by decide +kernel⟩
theorem im_mRef_byteOf : Cond.instanceMethod mRef_byteOf.1 ∈ pmW := pmW_tb (i := 1232) (by decide +kernel) rfl
theorem se_mRef_byteOf : Cond.selects mRef_byteOf.1.cls mRef_byteOf.1 mRef_byteOf.1 ∈ pmW := pmW_tb (i := 1233) (by decide +kernel) rfl
def mRef_isFull : pmMeth := (⟨"PortableFilesModel", "isFull", "(I)Z"⟩, prog_14_method_20_code, 4, (some .boolean), [], 8, 2, 0, 0)
theorem ok_mRef_isFull : pmOk mRef_isFull := ⟨⟨pmW_tb (i := 1246) (by decide +kernel) rfl, qI_Ref⟩, plainFor_of_name (by decide +kernel), by decide +kernel, by decide +kernel⟩
theorem im_mRef_isFull : Cond.instanceMethod mRef_isFull.1 ∈ pmW := pmW_tb (i := 1245) (by decide +kernel) rfl
theorem se_mRef_isFull : Cond.selects mRef_isFull.1.cls mRef_isFull.1 mRef_isFull.1 ∈ pmW := pmW_sel (i := 32) (q := (mRef_isFull.1, 42)) (by decide +kernel) rfl pmSelIn
def mRef_isGrey : pmMeth := (⟨"PortableFilesModel", "isGrey", "()Z"⟩, prog_14_method_21_code, 3, (some .boolean), [], 8, 1, 0, 0)
theorem ok_mRef_isGrey : pmOk mRef_isGrey := ⟨⟨pmW_tb (i := 1250) (by decide +kernel) rfl, qI_Ref⟩, plainFor_of_name (by decide +kernel), by decide +kernel, by decide +kernel⟩
theorem im_mRef_isGrey : Cond.instanceMethod mRef_isGrey.1 ∈ pmW := pmW_tb (i := 1249) (by decide +kernel) rfl
theorem se_mRef_isGrey : Cond.selects mRef_isGrey.1.cls mRef_isGrey.1 mRef_isGrey.1 ∈ pmW := pmW_sel (i := 33) (q := (mRef_isGrey.1, 42)) (by decide +kernel) rfl pmSelIn
def mRef_greatest : pmMeth := (⟨"PortableFilesModel", "greatest", "(I)I"⟩, prog_14_method_22_code, 1, (some .int), [], 8, 1, 0, 0)
theorem ok_mRef_greatest : pmOk mRef_greatest := ⟨⟨pmW_tb (i := 1257) (by decide +kernel) rfl, qI_Ref⟩, plainFor_of_name (by decide +kernel), by decide +kernel, by decide +kernel⟩
theorem st_mRef_greatest : Cond.static mRef_greatest.1 ∈ pmW := pmW_tb (i := 1256) (by decide +kernel) rfl
def mRef_fits : pmMeth := (⟨"PortableFilesModel", "fits", "(I)Z"⟩, prog_14_method_23_code, 5, (some .boolean), [], 8, 2, 1, 20)
theorem ok_mRef_fits : pmOk mRef_fits := ⟨⟨pmW_tb (i := 1254) (by decide +kernel) rfl, qI_Ref⟩, plainFor_of_name (by decide +kernel), by decide +kernel, by decide +kernel⟩
theorem im_mRef_fits : Cond.instanceMethod mRef_fits.1 ∈ pmW := pmW_tb (i := 1253) (by decide +kernel) rfl
theorem se_mRef_fits : Cond.selects mRef_fits.1.cls mRef_fits.1 mRef_fits.1 ∈ pmW := pmW_sel (i := 34) (q := (mRef_fits.1, 42)) (by decide +kernel) rfl pmSelIn
def mRef_lessen : pmMeth := (⟨"PortableFilesModel", "lessen", "()V"⟩, prog_14_method_24_code, 4, none, [], 8, 1, 2, 44)
theorem ok_mRef_lessen : pmOk mRef_lessen := ⟨⟨pmW_tb (i := 1242) (by decide +kernel) rfl, qI_Ref⟩, plainFor_of_name (by decide +kernel), by decide +kernel, by decide +kernel⟩
theorem im_mRef_lessen : Cond.instanceMethod mRef_lessen.1 ∈ pmW := pmW_tb (i := 1241) (by decide +kernel) rfl
theorem se_mRef_lessen : Cond.selects mRef_lessen.1.cls mRef_lessen.1 mRef_lessen.1 ∈ pmW := pmW_sel (i := 31) (q := (mRef_lessen.1, 42)) (by decide +kernel) rfl pmSelIn
def mRef_reduce : pmMeth := (⟨"PortableFilesModel", "reduce", "()I"⟩, prog_14_method_25_code, 3, (some .int), [], 8, 1, 3, 67)
theorem ok_mRef_reduce : pmOk mRef_reduce := ⟨⟨pmW_tb (i := 1238) (by decide +kernel) rfl, qI_Ref⟩, plainFor_of_name (by decide +kernel), by decide +kernel, by decide +kernel⟩
theorem im_mRef_reduce : Cond.instanceMethod mRef_reduce.1 ∈ pmW := pmW_tb (i := 1236) (by decide +kernel) rfl
theorem se_mRef_reduce : Cond.selects mRef_reduce.1.cls mRef_reduce.1 mRef_reduce.1 ∈ pmW := pmW_tb (i := 1237) (by decide +kernel) rfl
def mRef_tell : pmMeth := (⟨"PortableFilesModel", "tell", "(I)V"⟩, prog_14_method_26_code, 2, none, [], 8, 2, 0, 0)
theorem ok_mRef_tell : pmOk mRef_tell := ⟨⟨pmW_tb (i := 1268) (by decide +kernel) rfl, qI_Ref⟩, plainFor_of_name (by decide +kernel), by decide +kernel, by decide +kernel⟩
theorem im_mRef_tell : Cond.instanceMethod mRef_tell.1 ∈ pmW := pmW_tb (i := 1267) (by decide +kernel) rfl
theorem se_mRef_tell : Cond.selects mRef_tell.1.cls mRef_tell.1 mRef_tell.1 ∈ pmW := pmW_sel (i := 35) (q := (mRef_tell.1, 42)) (by decide +kernel) rfl pmSelIn
def mRef_tellNumber : pmMeth := (⟨"PortableFilesModel", "tellNumber", "(I)V"⟩, prog_14_method_27_code, 3, none, [], 8, 2, 1, 21)
theorem ok_mRef_tellNumber : pmOk mRef_tellNumber := ⟨⟨pmW_tb (i := 1277) (by decide +kernel) rfl, qI_Ref⟩, plainFor_of_name (by decide +kernel), by decide +kernel, by decide +kernel⟩
theorem im_mRef_tellNumber : Cond.instanceMethod mRef_tellNumber.1 ∈ pmW := pmW_tb (i := 1276) (by decide +kernel) rfl
theorem se_mRef_tellNumber : Cond.selects mRef_tellNumber.1.cls mRef_tellNumber.1 mRef_tellNumber.1 ∈ pmW := pmW_sel (i := 37) (q := (mRef_tellNumber.1, 42)) (by decide +kernel) rfl pmSelIn
def mRef_sumOf : pmMeth := (⟨"PortableFilesModel", "sumOf", "([III)I"⟩, prog_14_method_28_code, 7, (some .int), [], 8, 3, 0, 0)
theorem ok_mRef_sumOf : pmOk mRef_sumOf := ⟨⟨pmW_tb (i := 1284) (by decide +kernel) rfl, qI_Ref⟩, plainFor_of_name (by decide +kernel), by decide +kernel, by decide +kernel⟩
theorem st_mRef_sumOf : Cond.static mRef_sumOf.1 ∈ pmW := pmW_tb (i := 1283) (by decide +kernel) rfl
def mRef_close : pmMeth := (⟨"PortableFilesModel", "close", "(I)V"⟩, prog_14_method_29_code, 4, none, [], 8, 2, 2, 43)
theorem ok_mRef_close : pmOk mRef_close := ⟨⟨pmW_tb (i := 1281) (by decide +kernel) rfl, qI_Ref⟩, plainFor_of_name (by decide +kernel), by decide +kernel, by decide +kernel⟩
theorem im_mRef_close : Cond.instanceMethod mRef_close.1 ∈ pmW := pmW_tb (i := 1280) (by decide +kernel) rfl
theorem se_mRef_close : Cond.selects mRef_close.1.cls mRef_close.1 mRef_close.1 ∈ pmW := pmW_sel (i := 38) (q := (mRef_close.1, 42)) (by decide +kernel) rfl pmSelIn
def mRef_open : pmMeth := (⟨"PortableFilesModel", "open", "(I)I"⟩, prog_14_method_30_code, 3, (some .int), [], 8, 2, 2, 43)
theorem ok_mRef_open : pmOk mRef_open := ⟨⟨pmW_tb (i := 1273) (by decide +kernel) rfl, qI_Ref⟩, plainFor_of_name (by decide +kernel), by decide +kernel, by decide +kernel⟩
theorem im_mRef_open : Cond.instanceMethod mRef_open.1 ∈ pmW := pmW_tb (i := 1272) (by decide +kernel) rfl
theorem se_mRef_open : Cond.selects mRef_open.1.cls mRef_open.1 mRef_open.1 ∈ pmW := pmW_sel (i := 36) (q := (mRef_open.1, 42)) (by decide +kernel) rfl pmSelIn
def mRef_writeTags : pmMeth := (⟨"PortableFilesModel", "writeTags", "()V"⟩, prog_14_method_31_code, 2, none, [], 8, 1, 3, 66)
theorem ok_mRef_writeTags : pmOk mRef_writeTags := ⟨⟨pmW_tb (i := 1291) (by decide +kernel) rfl, qI_Ref⟩, plainFor_of_name (by decide +kernel), by decide +kernel, by decide +kernel⟩
theorem im_mRef_writeTags : Cond.instanceMethod mRef_writeTags.1 ∈ pmW := pmW_tb (i := 1290) (by decide +kernel) rfl
theorem se_mRef_writeTags : Cond.selects mRef_writeTags.1.cls mRef_writeTags.1 mRef_writeTags.1 ∈ pmW := pmW_sel (i := 39) (q := (mRef_writeTags.1, 42)) (by decide +kernel) rfl pmSelIn
def mRef_writePalette : pmMeth := (⟨"PortableFilesModel", "writePalette", "()V"⟩, prog_14_method_32_code, 4, none, [], 8, 1, 3, 66)
theorem ok_mRef_writePalette : pmOk mRef_writePalette := ⟨⟨pmW_tb (i := 1295) (by decide +kernel) rfl, qI_Ref⟩, plainFor_of_name (by decide +kernel), by decide +kernel, by decide +kernel⟩
theorem im_mRef_writePalette : Cond.instanceMethod mRef_writePalette.1 ∈ pmW := pmW_tb (i := 1294) (by decide +kernel) rfl
theorem se_mRef_writePalette : Cond.selects mRef_writePalette.1.cls mRef_writePalette.1 mRef_writePalette.1 ∈ pmW := pmW_sel (i := 40) (q := (mRef_writePalette.1, 42)) (by decide +kernel) rfl pmSelIn
def mRef_bytesInRow : pmMeth := (⟨"PortableFilesModel", "bytesInRow", "(III)I"⟩, prog_14_method_33_code, 3, (some .int), [], 8, 3, 1, 20)
theorem ok_mRef_bytesInRow : pmOk mRef_bytesInRow := ⟨⟨pmW_tb (i := 1303) (by decide +kernel) rfl, qI_Ref⟩, plainFor_of_name (by decide +kernel), by decide +kernel, by decide +kernel⟩
theorem st_mRef_bytesInRow : Cond.static mRef_bytesInRow.1 ∈ pmW := pmW_tb (i := 1302) (by decide +kernel) rfl
def mRef_rowByte : pmMeth := (⟨"PortableFilesModel", "rowByte", "(I)I"⟩, prog_14_method_34_code, 9, (some .int), [], 8, 2, 2, 42)
theorem ok_mRef_rowByte : pmOk mRef_rowByte := ⟨⟨pmW_tb (i := 1308) (by decide +kernel) rfl, qI_Ref⟩, plainFor_of_name (by decide +kernel), by decide +kernel, by decide +kernel⟩
theorem im_mRef_rowByte : Cond.instanceMethod mRef_rowByte.1 ∈ pmW := pmW_tb (i := 1307) (by decide +kernel) rfl
theorem se_mRef_rowByte : Cond.selects mRef_rowByte.1.cls mRef_rowByte.1 mRef_rowByte.1 ∈ pmW := pmW_sel (i := 42) (q := (mRef_rowByte.1, 42)) (by decide +kernel) rfl pmSelIn
def mRef_writeRows : pmMeth := (⟨"PortableFilesModel", "writeRows", "()V"⟩, prog_14_method_35_code, 5, none, [], 8, 1, 3, 70)
theorem ok_mRef_writeRows : pmOk mRef_writeRows := ⟨⟨pmW_tb (i := 1300) (by decide +kernel) rfl, qI_Ref⟩, plainFor_of_name (by decide +kernel), by decide +kernel, by decide +kernel⟩
theorem im_mRef_writeRows : Cond.instanceMethod mRef_writeRows.1 ∈ pmW := pmW_tb (i := 1299) (by decide +kernel) rfl
theorem se_mRef_writeRows : Cond.selects mRef_writeRows.1.cls mRef_writeRows.1 mRef_writeRows.1 ∈ pmW := pmW_sel (i := 41) (q := (mRef_writeRows.1, 42)) (by decide +kernel) rfl pmSelIn
def mRef_mark : pmMeth := (⟨"PortableFilesModel", "mark", "(I)I"⟩, prog_14_method_36_code, 1, (some .int), [], 8, 1, 0, 0)
theorem ok_mRef_mark : pmOk mRef_mark := ⟨⟨pmW_tb (i := 1264) (by decide +kernel) rfl, qI_Ref⟩, plainFor_of_name (by decide +kernel), by decide +kernel, by decide +kernel⟩
theorem st_mRef_mark : Cond.static mRef_mark.1 ∈ pmW := pmW_tb (i := 1263) (by decide +kernel) rfl
def mRef_write : pmMeth := (⟨"PortableFilesModel", "write", "()I"⟩, prog_14_method_37_code, 4, (some .int), [], 8, 1, 4, 94)
theorem ok_mRef_write : pmOk mRef_write := ⟨⟨pmW_tb (i := 1261) (by decide +kernel) rfl, qI_Ref⟩, plainFor_of_name (by decide +kernel), by decide +kernel, by decide +kernel⟩
theorem im_mRef_write : Cond.instanceMethod mRef_write.1 ∈ pmW := pmW_tb (i := 1259) (by decide +kernel) rfl
theorem se_mRef_write : Cond.selects mRef_write.1.cls mRef_write.1 mRef_write.1 ∈ pmW := pmW_tb (i := 1260) (by decide +kernel) rfl
def mRef_byteAt : pmMeth := (⟨"PortableFilesModel", "byteAt", "(I)I"⟩, prog_14_method_38_code, 2, (some .int), [], 8, 2, 0, 0)
theorem ok_mRef_byteAt : pmOk mRef_byteAt := ⟨⟨pmW_tb (i := 1313) (by decide +kernel) rfl, qI_Ref⟩, plainFor_of_name (by decide +kernel), by decide +kernel, by decide +kernel⟩
theorem im_mRef_byteAt : Cond.instanceMethod mRef_byteAt.1 ∈ pmW := pmW_tb (i := 1311) (by decide +kernel) rfl
theorem se_mRef_byteAt : Cond.selects mRef_byteAt.1.cls mRef_byteAt.1 mRef_byteAt.1 ∈ pmW := pmW_tb (i := 1312) (by decide +kernel) rfl
def mRef_feed : pmMeth := (⟨"PortableFilesModel", "feed", "(I)I"⟩, prog_14_method_39_code, 2, (some .int), [], 8, 2, 1, 20)
theorem ok_mRef_feed : pmOk mRef_feed := ⟨⟨pmW_tb (i := 1317) (by decide +kernel) rfl, qI_Ref⟩, plainFor_of_name (by decide +kernel), by decide +kernel, by decide +kernel⟩
theorem im_mRef_feed : Cond.instanceMethod mRef_feed.1 ∈ pmW := pmW_tb (i := 1315) (by decide +kernel) rfl
theorem se_mRef_feed : Cond.selects mRef_feed.1.cls mRef_feed.1 mRef_feed.1 ∈ pmW := pmW_tb (i := 1316) (by decide +kernel) rfl
def mRef_pass : pmMeth := (⟨"PortableFilesModel", "pass", "(II)I"⟩, prog_14_method_40_code, 5, (some .int), [], 8, 3, 0, 0)
theorem ok_mRef_pass : pmOk mRef_pass := ⟨⟨pmW_tb (i := 1321) (by decide +kernel) rfl, qI_Ref⟩, plainFor_of_name (by decide +kernel), by decide +kernel, by decide +kernel⟩
theorem im_mRef_pass : Cond.instanceMethod mRef_pass.1 ∈ pmW := pmW_tb (i := 1319) (by decide +kernel) rfl
theorem se_mRef_pass : Cond.selects mRef_pass.1.cls mRef_pass.1 mRef_pass.1 ∈ pmW := pmW_tb (i := 1320) (by decide +kernel) rfl
def mRef_four : pmMeth := (⟨"PortableFilesModel", "four", "([II)I"⟩, prog_14_method_41_code, 2, (some .int), [], 8, 2, 0, 0)
theorem ok_mRef_four : pmOk mRef_four := ⟨⟨pmW_tb (i := 1332) (by decide +kernel) rfl, qI_Ref⟩, plainFor_of_name (by decide +kernel), by decide +kernel, by decide +kernel⟩
theorem st_mRef_four : Cond.static mRef_four.1 ∈ pmW := pmW_tb (i := 1331) (by decide +kernel) rfl
def mRef_endOf : pmMeth := (⟨"PortableFilesModel", "endOf", "(I)I"⟩, prog_14_method_42_code, 3, (some .int), [], 8, 2, 1, 21)
theorem ok_mRef_endOf : pmOk mRef_endOf := ⟨⟨pmW_tb (i := 1329) (by decide +kernel) rfl, qI_Ref⟩, plainFor_of_name (by decide +kernel), by decide +kernel, by decide +kernel⟩
theorem im_mRef_endOf : Cond.instanceMethod mRef_endOf.1 ∈ pmW := pmW_tb (i := 1328) (by decide +kernel) rfl
theorem se_mRef_endOf : Cond.selects mRef_endOf.1.cls mRef_endOf.1 mRef_endOf.1 ∈ pmW := pmW_sel (i := 43) (q := (mRef_endOf.1, 42)) (by decide +kernel) rfl pmSelIn
def mRef_alter : pmMeth := (⟨"PortableFilesModel", "alter", "(IIZ)I"⟩, prog_14_method_43_code, 9, (some .int), [], 8, 4, 2, 43)
theorem ok_mRef_alter : pmOk mRef_alter := ⟨⟨pmW_tb (i := 1325) (by decide +kernel) rfl, qI_Ref⟩, plainFor_of_name (by decide +kernel), by decide +kernel, by decide +kernel⟩
theorem im_mRef_alter : Cond.instanceMethod mRef_alter.1 ∈ pmW := pmW_tb (i := 1323) (by decide +kernel) rfl
theorem se_mRef_alter : Cond.selects mRef_alter.1.cls mRef_alter.1 mRef_alter.1 ∈ pmW := pmW_tb (i := 1324) (by decide +kernel) rfl
def mRef_breakBy : pmMeth := (⟨"PortableFilesModel", "breakBy", "(ZII)V"⟩, prog_14_method_44_code, 4, none, [], 8, 4, 0, 0)
theorem ok_mRef_breakBy : pmOk mRef_breakBy := ⟨⟨pmW_tb (i := 1344) (by decide +kernel) rfl, qI_Ref⟩, plainFor_of_name (by decide +kernel), by decide +kernel, by decide +kernel⟩
theorem im_mRef_breakBy : Cond.instanceMethod mRef_breakBy.1 ∈ pmW := pmW_tb (i := 1343) (by decide +kernel) rfl
theorem se_mRef_breakBy : Cond.selects mRef_breakBy.1.cls mRef_breakBy.1 mRef_breakBy.1 ∈ pmW := pmW_sel (i := 45) (q := (mRef_breakBy.1, 42)) (by decide +kernel) rfl pmSelIn
def mRef_tagOf : pmMeth := (⟨"PortableFilesModel", "tagOf", "(I)I"⟩, prog_14_method_45_code, 1, (some .int), [], 8, 1, 0, 0)
theorem ok_mRef_tagOf : pmOk mRef_tagOf := ⟨⟨pmW_tb (i := 1355) (by decide +kernel) rfl, qI_Ref⟩, plainFor_of_name (by decide +kernel), by decide +kernel, by decide +kernel⟩
theorem st_mRef_tagOf : Cond.static mRef_tagOf.1 ∈ pmW := pmW_tb (i := 1354) (by decide +kernel) rfl
def mRef_isOutOfOrder : pmMeth := (⟨"PortableFilesModel", "isOutOfOrder", "(I)Z"⟩, prog_14_method_46_code, 3, (some .boolean), [], 8, 2, 1, 20)
theorem ok_mRef_isOutOfOrder : pmOk mRef_isOutOfOrder := ⟨⟨pmW_tb (i := 1352) (by decide +kernel) rfl, qI_Ref⟩, plainFor_of_name (by decide +kernel), by decide +kernel, by decide +kernel⟩
theorem im_mRef_isOutOfOrder : Cond.instanceMethod mRef_isOutOfOrder.1 ∈ pmW := pmW_tb (i := 1351) (by decide +kernel) rfl
theorem se_mRef_isOutOfOrder : Cond.selects mRef_isOutOfOrder.1.cls mRef_isOutOfOrder.1 mRef_isOutOfOrder.1 ∈ pmW := pmW_sel (i := 47) (q := (mRef_isOutOfOrder.1, 42)) (by decide +kernel) rfl pmSelIn
def mRef_takeHead : pmMeth := (⟨"PortableFilesModel", "takeHead", "(II)Z"⟩, prog_14_method_47_code, 3, (some .boolean), [], 8, 3, 1, 25)
theorem ok_mRef_takeHead : pmOk mRef_takeHead := ⟨⟨pmW_tb (i := 1363) (by decide +kernel) rfl, qI_Ref⟩, plainFor_of_name (by decide +kernel), by decide +kernel, by decide +kernel⟩
theorem im_mRef_takeHead : Cond.instanceMethod mRef_takeHead.1 ∈ pmW := pmW_tb (i := 1362) (by decide +kernel) rfl
theorem se_mRef_takeHead : Cond.selects mRef_takeHead.1.cls mRef_takeHead.1 mRef_takeHead.1 ∈ pmW := pmW_sel (i := 49) (q := (mRef_takeHead.1, 42)) (by decide +kernel) rfl pmSelIn
def mRef_takeTag : pmMeth := (⟨"PortableFilesModel", "takeTag", "(III)Z"⟩, prog_14_method_48_code, 5, (some .boolean), [], 8, 4, 1, 22)
theorem ok_mRef_takeTag : pmOk mRef_takeTag := ⟨⟨pmW_tb (i := 1383) (by decide +kernel) rfl, qI_Ref⟩, plainFor_of_name (by decide +kernel), by decide +kernel, by decide +kernel⟩
theorem im_mRef_takeTag : Cond.instanceMethod mRef_takeTag.1 ∈ pmW := pmW_tb (i := 1382) (by decide +kernel) rfl
theorem se_mRef_takeTag : Cond.selects mRef_takeTag.1.cls mRef_takeTag.1 mRef_takeTag.1 ∈ pmW := pmW_sel (i := 54) (q := (mRef_takeTag.1, 42)) (by decide +kernel) rfl pmSelIn
def mRef_takePalette : pmMeth := (⟨"PortableFilesModel", "takePalette", "(II)Z"⟩, prog_14_method_49_code, 4, (some .boolean), [], 8, 3, 1, 20)
theorem ok_mRef_takePalette : pmOk mRef_takePalette := ⟨⟨pmW_tb (i := 1367) (by decide +kernel) rfl, qI_Ref⟩, plainFor_of_name (by decide +kernel), by decide +kernel, by decide +kernel⟩
theorem im_mRef_takePalette : Cond.instanceMethod mRef_takePalette.1 ∈ pmW := pmW_tb (i := 1366) (by decide +kernel) rfl
theorem se_mRef_takePalette : Cond.selects mRef_takePalette.1.cls mRef_takePalette.1 mRef_takePalette.1 ∈ pmW := pmW_sel (i := 50) (q := (mRef_takePalette.1, 42)) (by decide +kernel) rfl pmSelIn
def mRef_takeAlphas : pmMeth := (⟨"PortableFilesModel", "takeAlphas", "(II)Z"⟩, prog_14_method_50_code, 4, (some .boolean), [], 8, 3, 0, 0)
theorem ok_mRef_takeAlphas : pmOk mRef_takeAlphas := ⟨⟨pmW_tb (i := 1371) (by decide +kernel) rfl, qI_Ref⟩, plainFor_of_name (by decide +kernel), by decide +kernel, by decide +kernel⟩
theorem im_mRef_takeAlphas : Cond.instanceMethod mRef_takeAlphas.1 ∈ pmW := pmW_tb (i := 1370) (by decide +kernel) rfl
theorem se_mRef_takeAlphas : Cond.selects mRef_takeAlphas.1.cls mRef_takeAlphas.1 mRef_takeAlphas.1 ∈ pmW := pmW_sel (i := 51) (q := (mRef_takeAlphas.1, 42)) (by decide +kernel) rfl pmSelIn
def mRef_takeRows : pmMeth := (⟨"PortableFilesModel", "takeRows", "(II)Z"⟩, prog_14_method_51_code, 4, (some .boolean), [], 8, 3, 0, 0)
theorem ok_mRef_takeRows : pmOk mRef_takeRows := ⟨⟨pmW_tb (i := 1375) (by decide +kernel) rfl, qI_Ref⟩, plainFor_of_name (by decide +kernel), by decide +kernel, by decide +kernel⟩
theorem im_mRef_takeRows : Cond.instanceMethod mRef_takeRows.1 ∈ pmW := pmW_tb (i := 1374) (by decide +kernel) rfl
theorem se_mRef_takeRows : Cond.selects mRef_takeRows.1.cls mRef_takeRows.1 mRef_takeRows.1 ∈ pmW := pmW_sel (i := 52) (q := (mRef_takeRows.1, 42)) (by decide +kernel) rfl pmSelIn
def mRef_takeExtra : pmMeth := (⟨"PortableFilesModel", "takeExtra", "(III)Z"⟩, prog_14_method_52_code, 5, (some .boolean), [], 8, 4, 0, 0)
theorem ok_mRef_takeExtra : pmOk mRef_takeExtra := ⟨⟨pmW_tb (i := 1379) (by decide +kernel) rfl, qI_Ref⟩, plainFor_of_name (by decide +kernel), by decide +kernel, by decide +kernel⟩
theorem im_mRef_takeExtra : Cond.instanceMethod mRef_takeExtra.1 ∈ pmW := pmW_tb (i := 1378) (by decide +kernel) rfl
theorem se_mRef_takeExtra : Cond.selects mRef_takeExtra.1.cls mRef_takeExtra.1 mRef_takeExtra.1 ∈ pmW := pmW_sel (i := 53) (q := (mRef_takeExtra.1, 42)) (by decide +kernel) rfl pmSelIn
def mRef_takes : pmMeth := (⟨"PortableFilesModel", "takes", "(III)Z"⟩, prog_14_method_53_code, 4, (some .boolean), [], 8, 4, 2, 47)
theorem ok_mRef_takes : pmOk mRef_takes := ⟨⟨pmW_tb (i := 1359) (by decide +kernel) rfl, qI_Ref⟩, plainFor_of_name (by decide +kernel), by decide +kernel, by decide +kernel⟩
theorem im_mRef_takes : Cond.instanceMethod mRef_takes.1 ∈ pmW := pmW_tb (i := 1358) (by decide +kernel) rfl
theorem se_mRef_takes : Cond.selects mRef_takes.1.cls mRef_takes.1 mRef_takes.1 ∈ pmW := pmW_sel (i := 48) (q := (mRef_takes.1, 42)) (by decide +kernel) rfl pmSelIn
def mRef_rowBits : pmMeth := (⟨"PortableFilesModel", "rowBits", "(II)I"⟩, prog_14_method_54_code, 5, (some .int), [], 8, 3, 0, 0)
theorem ok_mRef_rowBits : pmOk mRef_rowBits := ⟨⟨pmW_tb (i := 1391) (by decide +kernel) rfl, qI_Ref⟩, plainFor_of_name (by decide +kernel), by decide +kernel, by decide +kernel⟩
theorem im_mRef_rowBits : Cond.instanceMethod mRef_rowBits.1 ∈ pmW := pmW_tb (i := 1390) (by decide +kernel) rfl
theorem se_mRef_rowBits : Cond.selects mRef_rowBits.1.cls mRef_rowBits.1 mRef_rowBits.1 ∈ pmW := pmW_sel (i := 56) (q := (mRef_rowBits.1, 42)) (by decide +kernel) rfl pmSelIn
def mRef_unpack : pmMeth := (⟨"PortableFilesModel", "unpack", "()Z"⟩, prog_14_method_55_code, 8, (some .boolean), [], 8, 1, 2, 42)
theorem ok_mRef_unpack : pmOk mRef_unpack := ⟨⟨pmW_tb (i := 1387) (by decide +kernel) rfl, qI_Ref⟩, plainFor_of_name (by decide +kernel), by decide +kernel, by decide +kernel⟩
theorem im_mRef_unpack : Cond.instanceMethod mRef_unpack.1 ∈ pmW := pmW_tb (i := 1386) (by decide +kernel) rfl
theorem se_mRef_unpack : Cond.selects mRef_unpack.1.cls mRef_unpack.1 mRef_unpack.1 ∈ pmW := pmW_sel (i := 55) (q := (mRef_unpack.1, 42)) (by decide +kernel) rfl pmSelIn
def mRef_begin : pmMeth := (⟨"PortableFilesModel", "begin", "()V"⟩, prog_14_method_56_code, 3, none, [], 8, 1, 1, 23)
theorem ok_mRef_begin : pmOk mRef_begin := ⟨⟨pmW_tb (i := 1340) (by decide +kernel) rfl, qI_Ref⟩, plainFor_of_name (by decide +kernel), by decide +kernel, by decide +kernel⟩
theorem im_mRef_begin : Cond.instanceMethod mRef_begin.1 ∈ pmW := pmW_tb (i := 1339) (by decide +kernel) rfl
theorem se_mRef_begin : Cond.selects mRef_begin.1.cls mRef_begin.1 mRef_begin.1 ∈ pmW := pmW_sel (i := 44) (q := (mRef_begin.1, 42)) (by decide +kernel) rfl pmSelIn
def mRef_chunk : pmMeth := (⟨"PortableFilesModel", "chunk", "(I)I"⟩, prog_14_method_57_code, 6, (some .int), [], 8, 2, 3, 70)
theorem ok_mRef_chunk : pmOk mRef_chunk := ⟨⟨pmW_tb (i := 1348) (by decide +kernel) rfl, qI_Ref⟩, plainFor_of_name (by decide +kernel), by decide +kernel, by decide +kernel⟩
theorem im_mRef_chunk : Cond.instanceMethod mRef_chunk.1 ∈ pmW := pmW_tb (i := 1347) (by decide +kernel) rfl
theorem se_mRef_chunk : Cond.selects mRef_chunk.1.cls mRef_chunk.1 mRef_chunk.1 ∈ pmW := pmW_sel (i := 46) (q := (mRef_chunk.1, 42)) (by decide +kernel) rfl pmSelIn
def mRef_read : pmMeth := (⟨"PortableFilesModel", "read", "()I"⟩, prog_14_method_58_code, 4, (some .int), [], 8, 1, 4, 95)
theorem ok_mRef_read : pmOk mRef_read := ⟨⟨pmW_tb (i := 1336) (by decide +kernel) rfl, qI_Ref⟩, plainFor_of_name (by decide +kernel), by decide +kernel, by decide +kernel⟩
theorem im_mRef_read : Cond.instanceMethod mRef_read.1 ∈ pmW := pmW_tb (i := 1334) (by decide +kernel) rfl
theorem se_mRef_read : Cond.selects mRef_read.1.cls mRef_read.1 mRef_read.1 ∈ pmW := pmW_tb (i := 1335) (by decide +kernel) rfl
def mRef_at : pmMeth := (⟨"PortableFilesModel", "at", "(III)I"⟩, prog_14_method_59_code, 4, (some .int), [], 8, 4, 1, 20)
theorem ok_mRef_at : pmOk mRef_at := ⟨⟨pmW_tb (i := 1395) (by decide +kernel) rfl, qI_Ref⟩, plainFor_of_name (by decide +kernel), by decide +kernel, by decide +kernel⟩
theorem im_mRef_at : Cond.instanceMethod mRef_at.1 ∈ pmW := pmW_tb (i := 1393) (by decide +kernel) rfl
theorem se_mRef_at : Cond.selects mRef_at.1.cls mRef_at.1 mRef_at.1 ∈ pmW := pmW_tb (i := 1394) (by decide +kernel) rfl
def mRef_found : pmMeth := (⟨"PortableFilesModel", "found", "(I)I"⟩, prog_14_method_60_code, 2, (some .int), [], 8, 2, 0, 0)
theorem ok_mRef_found : pmOk mRef_found := ⟨⟨pmW_tb (i := 1399) (by decide +kernel) rfl, qI_Ref⟩, plainFor_of_name (by decide +kernel), by decide +kernel, by decide +kernel⟩
theorem im_mRef_found : Cond.instanceMethod mRef_found.1 ∈ pmW := pmW_tb (i := 1397) (by decide +kernel) rfl
theorem se_mRef_found : Cond.selects mRef_found.1.cls mRef_found.1 mRef_found.1 ∈ pmW := pmW_tb (i := 1398) (by decide +kernel) rfl
def mRef_entry : pmMeth := (⟨"PortableFilesModel", "entry", "(II)I"⟩, prog_14_method_61_code, 3, (some .int), [], 8, 3, 0, 0)
theorem ok_mRef_entry : pmOk mRef_entry := ⟨⟨pmW_tb (i := 1403) (by decide +kernel) rfl, qI_Ref⟩, plainFor_of_name (by decide +kernel), by decide +kernel, by decide +kernel⟩
theorem im_mRef_entry : Cond.instanceMethod mRef_entry.1 ∈ pmW := pmW_tb (i := 1401) (by decide +kernel) rfl
theorem se_mRef_entry : Cond.selects mRef_entry.1.cls mRef_entry.1 mRef_entry.1 ∈ pmW := pmW_tb (i := 1402) (by decide +kernel) rfl
def mRef_unknown : pmMeth := (⟨"PortableFilesModel", "unknown", "(II)I"⟩, prog_14_method_62_code, 3, (some .int), [], 8, 3, 0, 0)
theorem ok_mRef_unknown : pmOk mRef_unknown := ⟨⟨pmW_tb (i := 1407) (by decide +kernel) rfl, qI_Ref⟩, plainFor_of_name (by decide +kernel), by decide +kernel, by decide +kernel⟩
theorem im_mRef_unknown : Cond.instanceMethod mRef_unknown.1 ∈ pmW := pmW_tb (i := 1405) (by decide +kernel) rfl
theorem se_mRef_unknown : Cond.selects mRef_unknown.1.cls mRef_unknown.1 mRef_unknown.1 ∈ pmW := pmW_tb (i := 1406) (by decide +kernel) rfl
def mRef_take : pmMeth := (⟨"PortableFilesModel", "take", "()V"⟩, prog_14_method_63_code, 2, none, [], 8, 1, 0, 0)
theorem ok_mRef_take : pmOk mRef_take := ⟨⟨pmW_tb (i := 1411) (by decide +kernel) rfl, qI_Ref⟩, plainFor_of_name (by decide +kernel), by decide +kernel, by decide +kernel⟩
theorem im_mRef_take : Cond.instanceMethod mRef_take.1 ∈ pmW := pmW_tb (i := 1409) (by decide +kernel) rfl
theorem se_mRef_take : Cond.selects mRef_take.1.cls mRef_take.1 mRef_take.1 ∈ pmW := pmW_tb (i := 1410) (by decide +kernel) rfl
def mRef_told : pmMeth := (⟨"PortableFilesModel", "told", "(I)I"⟩, prog_14_method_64_code, 2, (some .int), [], 8, 2, 0, 0)
theorem ok_mRef_told : pmOk mRef_told := ⟨⟨pmW_tb (i := 1415) (by decide +kernel) rfl, qI_Ref⟩, plainFor_of_name (by decide +kernel), by decide +kernel, by decide +kernel⟩
theorem im_mRef_told : Cond.instanceMethod mRef_told.1 ∈ pmW := pmW_tb (i := 1413) (by decide +kernel) rfl
theorem se_mRef_told : Cond.selects mRef_told.1.cls mRef_told.1 mRef_told.1 ∈ pmW := pmW_tb (i := 1414) (by decide +kernel) rfl
def mRef_drop : pmMeth := (⟨"PortableFilesModel", "drop", "()V"⟩, prog_14_method_65_code, 1, none, [], 8, 1, 0, 0)
theorem ok_mRef_drop : pmOk mRef_drop := ⟨⟨pmW_tb (i := 1419) (by decide +kernel) rfl, qI_Ref⟩, plainFor_of_name (by decide +kernel), by decide +kernel, by decide +kernel⟩
theorem im_mRef_drop : Cond.instanceMethod mRef_drop.1 ∈ pmW := pmW_tb (i := 1417) (by decide +kernel) rfl
theorem se_mRef_drop : Cond.selects mRef_drop.1.cls mRef_drop.1 mRef_drop.1 ∈ pmW := pmW_tb (i := 1418) (by decide +kernel) rfl
def mShape_mayBe : pmMeth := (⟨"PortableFiles$Shape", "mayBe", "(IIII)Z"⟩, prog_10_method_2_code, 4, (some .boolean), [], 9, 4, 1, 21)
theorem ok_mShape_mayBe : pmOk mShape_mayBe := ⟨⟨pmW_tb (i := 381) (by decide +kernel) rfl, qI_Shape⟩, plainFor_of_name (by decide +kernel), by decide +kernel, by decide +kernel⟩
theorem st_mShape_mayBe : Cond.static mShape_mayBe.1 ∈ pmW := pmW_tb (i := 380) (by decide +kernel) rfl
def mShape_channelsOf : pmMeth := (⟨"PortableFiles$Shape", "channelsOf", "(I)I"⟩, prog_10_method_3_code, 1, (some .int), [], 9, 1, 0, 0)
theorem ok_mShape_channelsOf : pmOk mShape_channelsOf := ⟨⟨pmW_tb (i := 394) (by decide +kernel) rfl, qI_Shape⟩, plainFor_of_name (by decide +kernel), by decide +kernel, by decide +kernel⟩
theorem st_mShape_channelsOf : Cond.static mShape_channelsOf.1 ∈ pmW := pmW_tb (i := 393) (by decide +kernel) rfl
def mShape_greatest : pmMeth := (⟨"PortableFiles$Shape", "greatest", "(I)I"⟩, prog_10_method_4_code, 1, (some .int), [], 9, 1, 0, 0)
theorem ok_mShape_greatest : pmOk mShape_greatest := ⟨⟨pmW_tb (i := 431) (by decide +kernel) rfl, qI_Shape⟩, plainFor_of_name (by decide +kernel), by decide +kernel, by decide +kernel⟩
theorem st_mShape_greatest : Cond.static mShape_greatest.1 ∈ pmW := pmW_tb (i := 430) (by decide +kernel) rfl
def mShape_sideMayBe : pmMeth := (⟨"PortableFiles$Shape", "sideMayBe", "(I)Z"⟩, prog_10_method_5_code, 1, (some .boolean), [], 9, 1, 0, 0)
theorem ok_mShape_sideMayBe : pmOk mShape_sideMayBe := ⟨⟨pmW_tb (i := 384) (by decide +kernel) rfl, qI_Shape⟩, plainFor_of_name (by decide +kernel), by decide +kernel, by decide +kernel⟩
theorem st_mShape_sideMayBe : Cond.static mShape_sideMayBe.1 ∈ pmW := pmW_tb (i := 383) (by decide +kernel) rfl
def mShape_bitsMayBe : pmMeth := (⟨"PortableFiles$Shape", "bitsMayBe", "(II)Z"⟩, prog_10_method_6_code, 2, (some .boolean), [], 9, 2, 0, 0)
theorem ok_mShape_bitsMayBe : pmOk mShape_bitsMayBe := ⟨⟨pmW_tb (i := 387) (by decide +kernel) rfl, qI_Shape⟩, plainFor_of_name (by decide +kernel), by decide +kernel, by decide +kernel⟩
theorem st_mShape_bitsMayBe : Cond.static mShape_bitsMayBe.1 ∈ pmW := pmW_tb (i := 386) (by decide +kernel) rfl
def mLetters_mayBe : pmMeth := (⟨"PortableFiles$Letters", "mayBe", "(I)Z"⟩, prog_5_method_2_code, 1, (some .boolean), [], 10, 1, 2, 40)
theorem ok_mLetters_mayBe : pmOk mLetters_mayBe := ⟨⟨pmW_tb (i := 308) (by decide +kernel) rfl, qI_Letters⟩, plainFor_of_name (by decide +kernel), by decide +kernel, by decide +kernel⟩
theorem st_mLetters_mayBe : Cond.static mLetters_mayBe.1 ∈ pmW := pmW_tb (i := 307) (by decide +kernel) rfl
def mLetters_areOfExtra : pmMeth := (⟨"PortableFiles$Letters", "areOfExtra", "(I)Z"⟩, prog_5_method_3_code, 1, (some .boolean), [], 10, 1, 3, 60)
theorem ok_mLetters_areOfExtra : pmOk mLetters_areOfExtra := ⟨⟨pmW_tb (i := 733) (by decide +kernel) rfl, qI_Letters⟩, plainFor_of_name (by decide +kernel), by decide +kernel, by decide +kernel⟩
theorem st_mLetters_areOfExtra : Cond.static mLetters_areOfExtra.1 ∈ pmW := pmW_tb (i := 732) (by decide +kernel) rfl
def mLetters_firstIsGreat : pmMeth := (⟨"PortableFiles$Letters", "firstIsGreat", "(I)Z"⟩, prog_5_method_4_code, 1, (some .boolean), [], 10, 1, 1, 21)
theorem ok_mLetters_firstIsGreat : pmOk mLetters_firstIsGreat := ⟨⟨pmW_tb (i := 338) (by decide +kernel) rfl, qI_Letters⟩, plainFor_of_name (by decide +kernel), by decide +kernel, by decide +kernel⟩
theorem st_mLetters_firstIsGreat : Cond.static mLetters_firstIsGreat.1 ∈ pmW := pmW_tb (i := 337) (by decide +kernel) rfl
def mLetters_fourthIsGreat : pmMeth := (⟨"PortableFiles$Letters", "fourthIsGreat", "(I)Z"⟩, prog_5_method_5_code, 1, (some .boolean), [], 10, 1, 1, 21)
theorem ok_mLetters_fourthIsGreat : pmOk mLetters_fourthIsGreat := ⟨⟨pmW_tb (i := 666) (by decide +kernel) rfl, qI_Letters⟩, plainFor_of_name (by decide +kernel), by decide +kernel, by decide +kernel⟩
theorem st_mLetters_fourthIsGreat : Cond.static mLetters_fourthIsGreat.1 ∈ pmW := pmW_tb (i := 665) (by decide +kernel) rfl
def mLetters_letter : pmMeth := (⟨"PortableFiles$Letters", "letter", "(II)I"⟩, prog_5_method_6_code, 2, (some .int), [], 10, 2, 0, 0)
theorem ok_mLetters_letter : pmOk mLetters_letter := ⟨⟨pmW_tb (i := 311) (by decide +kernel) rfl, qI_Letters⟩, plainFor_of_name (by decide +kernel), by decide +kernel, by decide +kernel⟩
theorem st_mLetters_letter : Cond.static mLetters_letter.1 ∈ pmW := pmW_tb (i := 310) (by decide +kernel) rfl
def mLetters_isLetter : pmMeth := (⟨"PortableFiles$Letters", "isLetter", "(I)Z"⟩, prog_5_method_7_code, 1, (some .boolean), [], 10, 1, 1, 20)
theorem ok_mLetters_isLetter : pmOk mLetters_isLetter := ⟨⟨pmW_tb (i := 314) (by decide +kernel) rfl, qI_Letters⟩, plainFor_of_name (by decide +kernel), by decide +kernel, by decide +kernel⟩
theorem st_mLetters_isLetter : Cond.static mLetters_isLetter.1 ∈ pmW := pmW_tb (i := 313) (by decide +kernel) rfl
def mLetters_isGreat : pmMeth := (⟨"PortableFiles$Letters", "isGreat", "(I)Z"⟩, prog_5_method_8_code, 1, (some .boolean), [], 10, 1, 0, 0)
theorem ok_mLetters_isGreat : pmOk mLetters_isGreat := ⟨⟨pmW_tb (i := 317) (by decide +kernel) rfl, qI_Letters⟩, plainFor_of_name (by decide +kernel), by decide +kernel, by decide +kernel⟩
theorem st_mLetters_isGreat : Cond.static mLetters_isGreat.1 ∈ pmW := pmW_tb (i := 316) (by decide +kernel) rfl
def mRows_lengthOf : pmMeth := (⟨"PortableFiles$Rows", "lengthOf", "(LPortableFiles$Picture;)I"⟩, prog_9_method_2_code, 1, (some .int), [], 11, 1, 2, 40)
theorem ok_mRows_lengthOf : pmOk mRows_lengthOf := ⟨⟨pmW_tb (i := 486) (by decide +kernel) rfl, qI_Rows⟩, plainFor_of_name (by decide +kernel), by decide +kernel, by decide +kernel⟩
theorem st_mRows_lengthOf : Cond.static mRows_lengthOf.1 ∈ pmW := pmW_tb (i := 485) (by decide +kernel) rfl
def mRows_pack : pmMeth := (⟨"PortableFiles$Rows", "pack", "(LPortableFiles$Picture;LPortableFiles$Bytes;)V"⟩, prog_9_method_3_code, 3, none, [], 11, 2, 3, 72)
theorem ok_mRows_pack : pmOk mRows_pack := ⟨⟨pmW_tb (i := 888) (by decide +kernel) rfl, qI_Rows⟩, plainFor_of_name (by decide +kernel), by decide +kernel, by decide +kernel⟩
theorem st_mRows_pack : Cond.static mRows_pack.1 ∈ pmW := pmW_tb (i := 887) (by decide +kernel) rfl
def mRows_unpack : pmMeth := (⟨"PortableFiles$Rows", "unpack", "(LPortableFiles$Bytes;LPortableFiles$Picture;)Z"⟩, prog_9_method_4_code, 5, (some .boolean), [], 11, 2, 3, 75)
theorem ok_mRows_unpack : pmOk mRows_unpack := ⟨⟨pmW_tb (i := 495) (by decide +kernel) rfl, qI_Rows⟩, plainFor_of_name (by decide +kernel), by decide +kernel, by decide +kernel⟩
theorem st_mRows_unpack : Cond.static mRows_unpack.1 ∈ pmW := pmW_tb (i := 494) (by decide +kernel) rfl
def mRows_packRow : pmMeth := (⟨"PortableFiles$Rows", "packRow", "(LPortableFiles$Picture;ILPortableFiles$Bytes;)V"⟩, prog_9_method_5_code, 7, none, [], 11, 3, 2, 46)
theorem ok_mRows_packRow : pmOk mRows_packRow := ⟨⟨pmW_tb (i := 893) (by decide +kernel) rfl, qI_Rows⟩, plainFor_of_name (by decide +kernel), by decide +kernel, by decide +kernel⟩
theorem st_mRows_packRow : Cond.static mRows_packRow.1 ∈ pmW := pmW_tb (i := 892) (by decide +kernel) rfl
def mRows_unpackRow : pmMeth := (⟨"PortableFiles$Rows", "unpackRow", "(LPortableFiles$Bytes;ILPortableFiles$Picture;I)Z"⟩, prog_9_method_6_code, 9, (some .boolean), [], 11, 4, 2, 47)
theorem ok_mRows_unpackRow : pmOk mRows_unpackRow := ⟨⟨pmW_tb (i := 503) (by decide +kernel) rfl, qI_Rows⟩, plainFor_of_name (by decide +kernel), by decide +kernel, by decide +kernel⟩
theorem st_mRows_unpackRow : Cond.static mRows_unpackRow.1 ∈ pmW := pmW_tb (i := 502) (by decide +kernel) rfl
def mRows_isFilledWithNought : pmMeth := (⟨"PortableFiles$Rows", "isFilledWithNought", "(ILPortableFiles$Picture;)Z"⟩, prog_9_method_7_code, 3, (some .boolean), [], 11, 2, 1, 20)
theorem ok_mRows_isFilledWithNought : pmOk mRows_isFilledWithNought := ⟨⟨pmW_tb (i := 499) (by decide +kernel) rfl, qI_Rows⟩, plainFor_of_name (by decide +kernel), by decide +kernel, by decide +kernel⟩
theorem st_mRows_isFilledWithNought : Cond.static mRows_isFilledWithNought.1 ∈ pmW := pmW_tb (i := 498) (by decide +kernel) rfl
def mRows_rowLength : pmMeth := (⟨"PortableFiles$Rows", "rowLength", "(LPortableFiles$Picture;)I"⟩, prog_9_method_8_code, 1, (some .int), [], 11, 1, 1, 20)
theorem ok_mRows_rowLength : pmOk mRows_rowLength := ⟨⟨pmW_tb (i := 489) (by decide +kernel) rfl, qI_Rows⟩, plainFor_of_name (by decide +kernel), by decide +kernel, by decide +kernel⟩
theorem st_mRows_rowLength : Cond.static mRows_rowLength.1 ∈ pmW := pmW_tb (i := 488) (by decide +kernel) rfl
def mRows_rowBits : pmMeth := (⟨"PortableFiles$Rows", "rowBits", "(LPortableFiles$Picture;)I"⟩, prog_9_method_9_code, 1, (some .int), [], 11, 1, 0, 0)
theorem ok_mRows_rowBits : pmOk mRows_rowBits := ⟨⟨pmW_tb (i := 492) (by decide +kernel) rfl, qI_Rows⟩, plainFor_of_name (by decide +kernel), by decide +kernel, by decide +kernel⟩
theorem st_mRows_rowBits : Cond.static mRows_rowBits.1 ∈ pmW := pmW_tb (i := 491) (by decide +kernel) rfl
def mLess_lessen : pmMeth := (⟨"PortableFiles$Lessening", "lessen", "(LPortableFiles$Picture;)V"⟩, prog_4_method_2_code, 3, none, [], 12, 1, 4, 92)
theorem ok_mLess_lessen : pmOk mLess_lessen := ⟨⟨pmW_tb (i := 772) (by decide +kernel) rfl, qI_Less⟩, plainFor_of_name (by decide +kernel), by decide +kernel, by decide +kernel⟩
theorem st_mLess_lessen : Cond.static mLess_lessen.1 ∈ pmW := pmW_tb (i := 771) (by decide +kernel) rfl
def mLess_lessenAlpha : pmMeth := (⟨"PortableFiles$Lessening", "lessenAlpha", "(LPortableFiles$Picture;)V"⟩, prog_4_method_3_code, 1, none, [], 12, 1, 3, 69)
theorem ok_mLess_lessenAlpha : pmOk mLess_lessenAlpha := ⟨⟨pmW_tb (i := 775) (by decide +kernel) rfl, qI_Less⟩, plainFor_of_name (by decide +kernel), by decide +kernel, by decide +kernel⟩
theorem st_mLess_lessenAlpha : Cond.static mLess_lessenAlpha.1 ∈ pmW := pmW_tb (i := 774) (by decide +kernel) rfl
def mLess_lessenColours : pmMeth := (⟨"PortableFiles$Lessening", "lessenColours", "(LPortableFiles$Picture;)V"⟩, prog_4_method_4_code, 1, none, [], 12, 1, 3, 69)
theorem ok_mLess_lessenColours : pmOk mLess_lessenColours := ⟨⟨pmW_tb (i := 786) (by decide +kernel) rfl, qI_Less⟩, plainFor_of_name (by decide +kernel), by decide +kernel, by decide +kernel⟩
theorem st_mLess_lessenColours : Cond.static mLess_lessenColours.1 ∈ pmW := pmW_tb (i := 785) (by decide +kernel) rfl
def mLess_lessenGreyBits : pmMeth := (⟨"PortableFiles$Lessening", "lessenGreyBits", "(LPortableFiles$Picture;)V"⟩, prog_4_method_5_code, 3, none, [], 12, 1, 3, 70)
theorem ok_mLess_lessenGreyBits : pmOk mLess_lessenGreyBits := ⟨⟨pmW_tb (i := 792) (by decide +kernel) rfl, qI_Less⟩, plainFor_of_name (by decide +kernel), by decide +kernel, by decide +kernel⟩
theorem st_mLess_lessenGreyBits : Cond.static mLess_lessenGreyBits.1 ∈ pmW := pmW_tb (i := 791) (by decide +kernel) rfl
def mLess_stepOf : pmMeth := (⟨"PortableFiles$Lessening", "stepOf", "(II)I"⟩, prog_4_method_6_code, 3, (some .int), [], 12, 2, 1, 20)
theorem ok_mLess_stepOf : pmOk mLess_stepOf := ⟨⟨pmW_tb (i := 795) (by decide +kernel) rfl, qI_Less⟩, plainFor_of_name (by decide +kernel), by decide +kernel, by decide +kernel⟩
theorem st_mLess_stepOf : Cond.static mLess_stepOf.1 ∈ pmW := pmW_tb (i := 794) (by decide +kernel) rfl
def mLess_lessenPaletteBits : pmMeth := (⟨"PortableFiles$Lessening", "lessenPaletteBits", "(LPortableFiles$Picture;)V"⟩, prog_4_method_7_code, 2, none, [], 12, 1, 2, 42)
theorem ok_mLess_lessenPaletteBits : pmOk mLess_lessenPaletteBits := ⟨⟨pmW_tb (i := 806) (by decide +kernel) rfl, qI_Less⟩, plainFor_of_name (by decide +kernel), by decide +kernel, by decide +kernel⟩
theorem st_mLess_lessenPaletteBits : Cond.static mLess_lessenPaletteBits.1 ∈ pmW := pmW_tb (i := 805) (by decide +kernel) rfl
def mLess_isOpaque : pmMeth := (⟨"PortableFiles$Lessening", "isOpaque", "(LPortableFiles$Picture;)Z"⟩, prog_4_method_8_code, 4, (some .boolean), [], 12, 1, 2, 46)
theorem ok_mLess_isOpaque : pmOk mLess_isOpaque := ⟨⟨pmW_tb (i := 778) (by decide +kernel) rfl, qI_Less⟩, plainFor_of_name (by decide +kernel), by decide +kernel, by decide +kernel⟩
theorem st_mLess_isOpaque : Cond.static mLess_isOpaque.1 ∈ pmW := pmW_tb (i := 777) (by decide +kernel) rfl
def mLess_isGreyEverywhere : pmMeth := (⟨"PortableFiles$Lessening", "isGreyEverywhere", "(LPortableFiles$Picture;)Z"⟩, prog_4_method_9_code, 4, (some .boolean), [], 12, 1, 2, 46)
theorem ok_mLess_isGreyEverywhere : pmOk mLess_isGreyEverywhere := ⟨⟨pmW_tb (i := 789) (by decide +kernel) rfl, qI_Less⟩, plainFor_of_name (by decide +kernel), by decide +kernel, by decide +kernel⟩
theorem st_mLess_isGreyEverywhere : Cond.static mLess_isGreyEverywhere.1 ∈ pmW := pmW_tb (i := 788) (by decide +kernel) rfl
def mLess_allAreTimes : pmMeth := (⟨"PortableFiles$Lessening", "allAreTimes", "(LPortableFiles$Picture;I)Z"⟩, prog_4_method_10_code, 4, (some .boolean), [], 12, 2, 2, 46)
theorem ok_mLess_allAreTimes : pmOk mLess_allAreTimes := ⟨⟨pmW_tb (i := 799) (by decide +kernel) rfl, qI_Less⟩, plainFor_of_name (by decide +kernel), by decide +kernel, by decide +kernel⟩
theorem st_mLess_allAreTimes : Cond.static mLess_allAreTimes.1 ∈ pmW := pmW_tb (i := 798) (by decide +kernel) rfl
def mLess_divideAll : pmMeth := (⟨"PortableFiles$Lessening", "divideAll", "(LPortableFiles$Picture;I)V"⟩, prog_4_method_11_code, 4, none, [], 12, 2, 2, 47)
theorem ok_mLess_divideAll : pmOk mLess_divideAll := ⟨⟨pmW_tb (i := 802) (by decide +kernel) rfl, qI_Less⟩, plainFor_of_name (by decide +kernel), by decide +kernel, by decide +kernel⟩
theorem st_mLess_divideAll : Cond.static mLess_divideAll.1 ∈ pmW := pmW_tb (i := 801) (by decide +kernel) rfl
def mArrays_fill : pmMeth := (⟨"java/util/Arrays", "fill", "([II)V"⟩, prog_25_method_103_code, 4, none, [], 14, 2, 0, 0)
theorem ok_mArrays_fill : pmOk mArrays_fill := ⟨⟨pmW_tb (i := 397) (by decide +kernel) rfl, qI_Arrays⟩, by decide +kernel, by decide +kernel, by decide +kernel⟩
theorem st_mArrays_fill : Cond.static mArrays_fill.1 ∈ pmW := pmW_tb (i := 396) (by decide +kernel) rfl
def mMath_min : pmMeth := (⟨"java/lang/Math", "min", "(II)I"⟩, prog_19_method_69_code, 2, (some .int), [], 15, 2, 0, 0)
theorem ok_mMath_min : pmOk mMath_min := ⟨⟨pmW_tb (i := 434) (by decide +kernel) rfl, qI_Math⟩, by decide +kernel, by decide +kernel, by decide +kernel⟩
theorem st_mMath_min : Cond.static mMath_min.1 ∈ pmW := pmW_tb (i := 433) (by decide +kernel) rfl
theorem qf_Bytes_7 : pmFd "PortableFiles$Bytes" 7 0 0 := ⟨_, rfl, by decide, pmW_tb (i := 161) (by decide +kernel) rfl⟩
theorem qf_Bytes_13 : pmFd "PortableFiles$Bytes" 13 0 1 := ⟨_, rfl, by decide, pmW_tb (i := 162) (by decide +kernel) rfl⟩
theorem qs_Bytes_33 : Jvm.Cond.fieldLink "PortableFiles$Bytes" (33) "PortableFiles$Bytes" "BEGINNING" "[I" ∈ pmW := pmW_tb (i := 273) (by decide +kernel) rfl
theorem qs_Bytes_46 : Jvm.Cond.fieldLink "PortableFiles$Bytes" (46) "PortableFiles$Bytes" "SUM_STEPS" "[I" ∈ pmW := pmW_tb (i := 330) (by decide +kernel) rfl
theorem qm_Bytes_17 : Jvm.Cond.methodLink "PortableFiles$Bytes" (17) ⟨"PortableFiles$Bytes", "has", "(I)Z"⟩ ∈ pmW := pmW_tb (i := 275) (by decide +kernel) rfl
theorem qm_Bytes_21 : Jvm.Cond.methodLink "PortableFiles$Bytes" (21) ⟨"PortableFiles$Bytes", "value", "(I)I"⟩ ∈ pmW := pmW_tb (i := 279) (by decide +kernel) rfl
theorem qm_Bytes_25 : Jvm.Cond.methodLink "PortableFiles$Bytes" (25) ⟨"PortableFiles$Bytes", "set", "(II)V"⟩ ∈ pmW := pmW_tb (i := 849) (by decide +kernel) rfl
theorem qm_Bytes_29 : Jvm.Cond.methodLink "PortableFiles$Bytes" (29) ⟨"PortableFiles$Bytes", "add", "(I)V"⟩ ∈ pmW := pmW_tb (i := 826) (by decide +kernel) rfl
theorem qm_Bytes_36 : Jvm.Cond.methodLink "PortableFiles$Bytes" (36) ⟨"PortableFiles$Bytes", "sumPlace", "(II)I"⟩ ∈ pmW := pmW_tb (i := 322) (by decide +kernel) rfl
theorem qm_Bytes_40 : Jvm.Cond.methodLink "PortableFiles$Bytes" (40) ⟨"PortableFiles$Bytes", "number", "(I)I"⟩ ∈ pmW := pmW_tb (i := 325) (by decide +kernel) rfl
theorem qm_Bytes_43 : Jvm.Cond.methodLink "PortableFiles$Bytes" (43) ⟨"PortableFiles$Bytes", "rightSum", "(II)I"⟩ ∈ pmW := pmW_tb (i := 326) (by decide +kernel) rfl
theorem qm_Bytes_49 : Jvm.Cond.methodLink "PortableFiles$Bytes" (49) ⟨"PortableFiles$Bytes", "hasWholeChunk", "(II)Z"⟩ ∈ pmW := pmW_tb (i := 962) (by decide +kernel) rfl
theorem qm_Bytes_53 : Jvm.Cond.methodLink "PortableFiles$Bytes" (53) ⟨"PortableFiles$Bytes", "dataLengthMayBe", "(I)Z"⟩ ∈ pmW := pmW_tb (i := 963) (by decide +kernel) rfl
theorem qm_Bytes_56 : Jvm.Cond.methodLink "PortableFiles$Bytes" (56) ⟨"PortableFiles$Bytes", "setNumber", "(II)V"⟩ ∈ pmW := pmW_tb (i := 964) (by decide +kernel) rfl
theorem qo_Bytes_1 : Jvm.Cond.methodLink "PortableFiles$Bytes" (1) ⟨"java/lang/Object", "<init>", "()V"⟩ ∈ pmW := pmW_tb (i := 160) (by decide +kernel) rfl
theorem qf_Extras_9 : pmFd "PortableFiles$Extras" 9 1 0 := ⟨_, rfl, by decide, pmW_tb (i := 72) (by decide +kernel) rfl⟩
theorem qf_Extras_13 : pmFd "PortableFiles$Extras" 13 1 1 := ⟨_, rfl, by decide, pmW_tb (i := 73) (by decide +kernel) rfl⟩
theorem qf_Extras_16 : pmFd "PortableFiles$Extras" 16 1 2 := ⟨_, rfl, by decide, pmW_tb (i := 74) (by decide +kernel) rfl⟩
theorem qf_Extras_19 : pmFd "PortableFiles$Extras" 19 1 3 := ⟨_, rfl, by decide, pmW_tb (i := 75) (by decide +kernel) rfl⟩
theorem qm_Extras_23 : Jvm.Cond.methodLink "PortableFiles$Extras" (23) ⟨"PortableFiles$Extras", "has", "(I)Z"⟩ ∈ pmW := pmW_tb (i := 476) (by decide +kernel) rfl
theorem qm_Extras_27 : Jvm.Cond.methodLink "PortableFiles$Extras" (27) ⟨"PortableFiles$Extras", "lengthOf", "(I)I"⟩ ∈ pmW := pmW_tb (i := 911) (by decide +kernel) rfl
theorem qm_Extras_31 : Jvm.Cond.methodLink "PortableFiles$Extras" (31) ⟨"PortableFiles$Extras", "isFull", "()Z"⟩ ∈ pmW := pmW_tb (i := 471) (by decide +kernel) rfl
theorem qm_Extras_35 : Jvm.Cond.methodLink "PortableFiles$Extras" (35) ⟨"PortableFiles$Letters", "fourthIsGreat", "(I)Z"⟩ ∈ pmW := pmW_tb (i := 664) (by decide +kernel) rfl
theorem qm_Extras_40 : Jvm.Cond.methodLink "PortableFiles$Extras" (40) ⟨"PortableFiles$Extras", "move", "(II)V"⟩ ∈ pmW := pmW_tb (i := 667) (by decide +kernel) rfl
theorem qo_Extras_1 : Jvm.Cond.methodLink "PortableFiles$Extras" (1) ⟨"java/lang/Object", "<init>", "()V"⟩ ∈ pmW := pmW_tb (i := 71) (by decide +kernel) rfl
theorem qp_Extras_44 : Jvm.Cond.methodLink "PortableFiles$Extras" (44) ⟨"java/lang/System", "arraycopy", "(Ljava/lang/Object;ILjava/lang/Object;II)V"⟩ ∈ pmW := pmW_tb (i := 671) (by decide +kernel) rfl
theorem qf_Palette_9 : pmFd "PortableFiles$Palette" 9 2 0 := ⟨_, rfl, by decide, pmW_tb (i := 44) (by decide +kernel) rfl⟩
theorem qf_Palette_25 : pmFd "PortableFiles$Palette" 25 2 1 := ⟨_, rfl, by decide, pmW_tb (i := 45) (by decide +kernel) rfl⟩
theorem qm_Palette_13 : Jvm.Cond.methodLink "PortableFiles$Palette" (13) ⟨"PortableFiles$Shape", "greatest", "(I)I"⟩ ∈ pmW := pmW_tb (i := 429) (by decide +kernel) rfl
theorem qm_Palette_19 : Jvm.Cond.methodLink "PortableFiles$Palette" (19) ⟨"java/lang/Math", "min", "(II)I"⟩ ∈ pmW := pmW_tb (i := 432) (by decide +kernel) rfl
theorem qm_Palette_29 : Jvm.Cond.methodLink "PortableFiles$Palette" (29) ⟨"PortableFiles$Palette", "has", "(I)Z"⟩ ∈ pmW := pmW_tb (i := 447) (by decide +kernel) rfl
theorem qm_Palette_33 : Jvm.Cond.methodLink "PortableFiles$Palette" (33) ⟨"PortableFiles$Palette", "part", "(II)I"⟩ ∈ pmW := pmW_tb (i := 880) (by decide +kernel) rfl
theorem qo_Palette_1 : Jvm.Cond.methodLink "PortableFiles$Palette" (1) ⟨"java/lang/Object", "<init>", "()V"⟩ ∈ pmW := pmW_tb (i := 43) (by decide +kernel) rfl
theorem qp_Palette_36 : Jvm.Cond.methodLink "PortableFiles$Palette" (36) ⟨"java/lang/System", "arraycopy", "(Ljava/lang/Object;ILjava/lang/Object;II)V"⟩ ∈ pmW := pmW_tb (i := 1023) (by decide +kernel) rfl
theorem qf_Picture_12 : pmFd "PortableFiles$Picture" 12 3 0 := ⟨_, rfl, by decide, pmW_tb (i := 88) (by decide +kernel) rfl⟩
theorem qf_Picture_21 : pmFd "PortableFiles$Picture" 21 3 1 := ⟨_, rfl, by decide, pmW_tb (i := 93) (by decide +kernel) rfl⟩
theorem qf_Picture_28 : pmFd "PortableFiles$Picture" 28 3 2 := ⟨_, rfl, by decide, pmW_tb (i := 97) (by decide +kernel) rfl⟩
theorem qf_Picture_32 : pmFd "PortableFiles$Picture" 32 3 3 := ⟨_, rfl, by decide, pmW_tb (i := 101) (by decide +kernel) rfl⟩
theorem qf_Picture_36 : pmFd "PortableFiles$Picture" 36 3 5 := ⟨_, rfl, by decide, pmW_tb (i := 104) (by decide +kernel) rfl⟩
theorem qf_Picture_40 : pmFd "PortableFiles$Picture" 40 3 6 := ⟨_, rfl, by decide, pmW_tb (i := 109) (by decide +kernel) rfl⟩
theorem qf_Picture_43 : pmFd "PortableFiles$Picture" 43 3 7 := ⟨_, rfl, by decide, pmW_tb (i := 114) (by decide +kernel) rfl⟩
theorem qf_Picture_46 : pmFd "PortableFiles$Picture" 46 3 8 := ⟨_, rfl, by decide, pmW_tb (i := 120) (by decide +kernel) rfl⟩
theorem qf_Picture_49 : pmFd "PortableFiles$Picture" 49 3 9 := ⟨_, rfl, by decide, pmW_tb (i := 125) (by decide +kernel) rfl⟩
theorem qf_Picture_52 : pmFd "PortableFiles$Picture" 52 3 4 := ⟨_, rfl, by decide, pmW_tb (i := 102) (by decide +kernel) rfl⟩
theorem qn_Picture_9 : Jvm.Cond.classLink "PortableFiles$Picture" (9) "PortableFiles$Palette" ∈ pmW := pmW_tb (i := 38) (by decide +kernel) rfl
theorem qn_Picture_18 : Jvm.Cond.classLink "PortableFiles$Picture" (18) "PortableFiles$Tags" ∈ pmW := pmW_tb (i := 56) (by decide +kernel) rfl
theorem qn_Picture_25 : Jvm.Cond.classLink "PortableFiles$Picture" (25) "PortableFiles$Extras" ∈ pmW := pmW_tb (i := 66) (by decide +kernel) rfl
theorem qN_Picture_11 : Jvm.Cond.methodLinkNest "PortableFiles$Picture" (11) ⟨"PortableFiles$Palette", "<init>", "()V"⟩ "PortableFiles" ∈ pmNest := by simp [pmNest]
theorem qN_Picture_20 : Jvm.Cond.methodLinkNest "PortableFiles$Picture" (20) ⟨"PortableFiles$Tags", "<init>", "()V"⟩ "PortableFiles" ∈ pmNest := by simp [pmNest]
theorem qN_Picture_27 : Jvm.Cond.methodLinkNest "PortableFiles$Picture" (27) ⟨"PortableFiles$Extras", "<init>", "()V"⟩ "PortableFiles" ∈ pmNest := by simp [pmNest]
theorem qm_Picture_56 : Jvm.Cond.methodLink "PortableFiles$Picture" (56) ⟨"PortableFiles$Shape", "channelsOf", "(I)I"⟩ ∈ pmW := pmW_tb (i := 392) (by decide +kernel) rfl
theorem qm_Picture_60 : Jvm.Cond.methodLink "PortableFiles$Picture" (60) ⟨"java/util/Arrays", "fill", "([II)V"⟩ ∈ pmW := pmW_tb (i := 395) (by decide +kernel) rfl
theorem qm_Picture_66 : Jvm.Cond.methodLink "PortableFiles$Picture" (66) ⟨"PortableFiles$Palette", "clear", "()V"⟩ ∈ pmW := pmW_tb (i := 398) (by decide +kernel) rfl
theorem qm_Picture_69 : Jvm.Cond.methodLink "PortableFiles$Picture" (69) ⟨"PortableFiles$Tags", "clear", "()V"⟩ ∈ pmW := pmW_tb (i := 402) (by decide +kernel) rfl
theorem qm_Picture_70 : Jvm.Cond.methodLink "PortableFiles$Picture" (70) ⟨"PortableFiles$Extras", "clear", "()V"⟩ ∈ pmW := pmW_tb (i := 407) (by decide +kernel) rfl
theorem qm_Picture_71 : Jvm.Cond.methodLink "PortableFiles$Picture" (71) ⟨"PortableFiles$Picture", "has", "(III)Z"⟩ ∈ pmW := pmW_tb (i := 514) (by decide +kernel) rfl
theorem qm_Picture_75 : Jvm.Cond.methodLink "PortableFiles$Picture" (75) ⟨"PortableFiles$Picture", "placeOf", "(III)I"⟩ ∈ pmW := pmW_tb (i := 518) (by decide +kernel) rfl
theorem qm_Picture_79 : Jvm.Cond.methodLink "PortableFiles$Picture" (79) ⟨"PortableFiles$Shape", "greatest", "(I)I"⟩ ∈ pmW := pmW_tb (i := 508) (by decide +kernel) rfl
theorem qm_Picture_82 : Jvm.Cond.methodLink "PortableFiles$Picture" (82) ⟨"PortableFiles$Palette", "has", "(I)Z"⟩ ∈ pmW := pmW_tb (i := 509) (by decide +kernel) rfl
theorem qm_Picture_85 : Jvm.Cond.methodLink "PortableFiles$Picture" (85) ⟨"PortableFiles$Extras", "leaveOnlySafeOnes", "()V"⟩ ∈ pmW := pmW_tb (i := 660) (by decide +kernel) rfl
theorem qm_Picture_94 : Jvm.Cond.methodLink "PortableFiles$Picture" (94) ⟨"PortableFiles$Palette", "copyFrom", "(LPortableFiles$Palette;)V"⟩ ∈ pmW := pmW_tb (i := 1019) (by decide +kernel) rfl
theorem qm_Picture_98 : Jvm.Cond.methodLink "PortableFiles$Picture" (98) ⟨"PortableFiles$Tags", "copyFrom", "(LPortableFiles$Tags;)V"⟩ ∈ pmW := pmW_tb (i := 1024) (by decide +kernel) rfl
theorem qm_Picture_101 : Jvm.Cond.methodLink "PortableFiles$Picture" (101) ⟨"PortableFiles$Extras", "copyFrom", "(LPortableFiles$Extras;)V"⟩ ∈ pmW := pmW_tb (i := 1029) (by decide +kernel) rfl
theorem qo_Picture_3 : Jvm.Cond.methodLink "PortableFiles$Picture" (3) ⟨"java/lang/Object", "<init>", "()V"⟩ ∈ pmW := pmW_tb (i := 37) (by decide +kernel) rfl
theorem qp_Picture_88 : Jvm.Cond.methodLink "PortableFiles$Picture" (88) ⟨"java/lang/System", "arraycopy", "(Ljava/lang/Object;ILjava/lang/Object;II)V"⟩ ∈ pmW := pmW_tb (i := 1018) (by decide +kernel) rfl
theorem qf_Reading_14 : pmFd "PortableFiles$Reading" 14 4 0 := ⟨_, rfl, by decide, pmW_tb (i := 191) (by decide +kernel) rfl⟩
theorem qf_Reading_23 : pmFd "PortableFiles$Reading" 23 4 1 := ⟨_, rfl, by decide, pmW_tb (i := 193) (by decide +kernel) rfl⟩
theorem qf_Reading_29 : pmFd "PortableFiles$Reading" 29 4 2 := ⟨_, rfl, by decide, pmW_tb (i := 195) (by decide +kernel) rfl⟩
theorem qf_Reading_35 : pmFd "PortableFiles$Reading" 35 4 4 := ⟨_, rfl, by decide, pmW_tb (i := 198) (by decide +kernel) rfl⟩
theorem qf_Reading_39 : pmFd "PortableFiles$Reading" 39 4 3 := ⟨_, rfl, by decide, pmW_tb (i := 196) (by decide +kernel) rfl⟩
theorem qf_Reading_47 : pmFd "PortableFiles$Reading" 47 4 9 := ⟨_, rfl, by decide, pmW_tb (i := 207) (by decide +kernel) rfl⟩
theorem qf_Reading_56 : pmFd "PortableFiles$Reading" 56 4 5 := ⟨_, rfl, by decide, pmW_tb (i := 200) (by decide +kernel) rfl⟩
theorem qf_Reading_59 : pmFd "PortableFiles$Reading" 59 4 8 := ⟨_, rfl, by decide, pmW_tb (i := 206) (by decide +kernel) rfl⟩
theorem qf_Reading_66 : pmFd "PortableFiles$Reading" 66 4 6 := ⟨_, rfl, by decide, pmW_tb (i := 202) (by decide +kernel) rfl⟩
theorem qf_Reading_69 : pmFd "PortableFiles$Reading" 69 4 7 := ⟨_, rfl, by decide, pmW_tb (i := 204) (by decide +kernel) rfl⟩
theorem qf_Reading_72 : pmFd "PortableFiles$Reading" 72 4 10 := ⟨_, rfl, by decide, pmW_tb (i := 208) (by decide +kernel) rfl⟩
theorem qf_Reading_78 : pmFd "PortableFiles$Reading" 78 4 11 := ⟨_, rfl, by decide, pmW_tb (i := 209) (by decide +kernel) rfl⟩
theorem qf_Reading_81 : pmFd "PortableFiles$Reading" 81 4 12 := ⟨_, rfl, by decide, pmW_tb (i := 210) (by decide +kernel) rfl⟩
theorem qf_Reading_84 : pmFd "PortableFiles$Reading" 84 4 13 := ⟨_, rfl, by decide, pmW_tb (i := 211) (by decide +kernel) rfl⟩
theorem qf_Reading_87 : pmFd "PortableFiles$Reading" 87 4 14 := ⟨_, rfl, by decide, pmW_tb (i := 212) (by decide +kernel) rfl⟩
theorem qf_Reading_90 : pmFd "PortableFiles$Reading" 90 4 15 := ⟨_, rfl, by decide, pmW_tb (i := 213) (by decide +kernel) rfl⟩
theorem qf_Reading_134 : pmFd "PortableFiles$Reading" 134 3 1 := ⟨_, rfl, by decide, pmW_tb (i := 96) (by decide +kernel) rfl⟩
theorem qf_Reading_146 : pmFd "PortableFiles$Reading" 146 3 8 := ⟨_, rfl, by decide, pmW_tb (i := 124) (by decide +kernel) rfl⟩
theorem qf_Reading_185 : pmFd "PortableFiles$Reading" 185 3 7 := ⟨_, rfl, by decide, pmW_tb (i := 119) (by decide +kernel) rfl⟩
theorem qf_Reading_193 : pmFd "PortableFiles$Reading" 193 3 0 := ⟨_, rfl, by decide, pmW_tb (i := 92) (by decide +kernel) rfl⟩
theorem qf_Reading_200 : pmFd "PortableFiles$Reading" 200 2 1 := ⟨_, rfl, by decide, pmW_tb (i := 49) (by decide +kernel) rfl⟩
theorem qf_Reading_210 : pmFd "PortableFiles$Reading" 210 3 2 := ⟨_, rfl, by decide, pmW_tb (i := 100) (by decide +kernel) rfl⟩
theorem qf_Reading_217 : pmFd "PortableFiles$Reading" 217 1 3 := ⟨_, rfl, by decide, pmW_tb (i := 78) (by decide +kernel) rfl⟩
theorem qc_Reading_52 : Jvm.Cond.constant "PortableFiles$Reading" (52) (1229278788) ∈ pmW := pmW_tb (i := 369) (by decide +kernel) rfl
theorem qc_Reading_132 : Jvm.Cond.constant "PortableFiles$Reading" (132) (1229209940) ∈ pmW := pmW_tb (i := 343) (by decide +kernel) rfl
theorem qc_Reading_133 : Jvm.Cond.constant "PortableFiles$Reading" (133) (1229472850) ∈ pmW := pmW_tb (i := 348) (by decide +kernel) rfl
theorem qc_Reading_151 : Jvm.Cond.constant "PortableFiles$Reading" (151) (1347179589) ∈ pmW := pmW_tb (i := 368) (by decide +kernel) rfl
theorem qn_Reading_9 : Jvm.Cond.classLink "PortableFiles$Reading" (9) "PortableFiles$Bytes" ∈ pmW := pmW_tb (i := 187) (by decide +kernel) rfl
theorem qn_Reading_20 : Jvm.Cond.classLink "PortableFiles$Reading" (20) "PortableFiles$Picture" ∈ pmW := pmW_tb (i := 189) (by decide +kernel) rfl
theorem qm_Reading_11 : Jvm.Cond.methodLink "PortableFiles$Reading" (11) ⟨"PortableFiles$Bytes", "<init>", "(I)V"⟩ ∈ pmW := pmW_tb (i := 188) (by decide +kernel) rfl
theorem qN_Reading_22 : Jvm.Cond.methodLinkNest "PortableFiles$Reading" (22) ⟨"PortableFiles$Picture", "<init>", "()V"⟩ "PortableFiles" ∈ pmNest := by simp [pmNest]
theorem qm_Reading_32 : Jvm.Cond.methodLink "PortableFiles$Reading" (32) ⟨"PortableFiles$Reading", "begin", "()V"⟩ ∈ pmW := pmW_tb (i := 265) (by decide +kernel) rfl
theorem qm_Reading_43 : Jvm.Cond.methodLink "PortableFiles$Reading" (43) ⟨"PortableFiles$Reading", "readChunk", "()I"⟩ ∈ pmW := pmW_tb (i := 287) (by decide +kernel) rfl
theorem qm_Reading_53 : Jvm.Cond.methodLink "PortableFiles$Reading" (53) ⟨"PortableFiles$Reading", "end", "()I"⟩ ∈ pmW := pmW_tb (i := 480) (by decide +kernel) rfl
theorem qm_Reading_62 : Jvm.Cond.methodLink "PortableFiles$Reading" (62) ⟨"PortableFiles$Bytes", "hasBeginning", "()Z"⟩ ∈ pmW := pmW_tb (i := 269) (by decide +kernel) rfl
theorem qm_Reading_75 : Jvm.Cond.methodLink "PortableFiles$Reading" (75) ⟨"PortableFiles$Bytes", "clear", "()V"⟩ ∈ pmW := pmW_tb (i := 283) (by decide +kernel) rfl
theorem qm_Reading_93 : Jvm.Cond.methodLink "PortableFiles$Reading" (93) ⟨"PortableFiles$Reading", "frameFault", "()I"⟩ ∈ pmW := pmW_tb (i := 291) (by decide +kernel) rfl
theorem qm_Reading_96 : Jvm.Cond.methodLink "PortableFiles$Reading" (96) ⟨"PortableFiles$Bytes", "sumIsRight", "(II)Z"⟩ ∈ pmW := pmW_tb (i := 318) (by decide +kernel) rfl
theorem qm_Reading_100 : Jvm.Cond.methodLink "PortableFiles$Reading" (100) ⟨"PortableFiles$Reading", "leaveOut", "()I"⟩ ∈ pmW := pmW_tb (i := 332) (by decide +kernel) rfl
theorem qm_Reading_103 : Jvm.Cond.methodLink "PortableFiles$Reading" (103) ⟨"PortableFiles$Reading", "orderIsWrong", "()Z"⟩ ∈ pmW := pmW_tb (i := 344) (by decide +kernel) rfl
theorem qm_Reading_106 : Jvm.Cond.methodLink "PortableFiles$Reading" (106) ⟨"PortableFiles$Reading", "isUnknown", "()Z"⟩ ∈ pmW := pmW_tb (i := 364) (by decide +kernel) rfl
theorem qm_Reading_109 : Jvm.Cond.methodLink "PortableFiles$Reading" (109) ⟨"PortableFiles$Reading", "takeIn", "()Z"⟩ ∈ pmW := pmW_tb (i := 370) (by decide +kernel) rfl
theorem qm_Reading_112 : Jvm.Cond.methodLink "PortableFiles$Reading" (112) ⟨"PortableFiles$Reading", "noteRowsEnd", "()V"⟩ ∈ pmW := pmW_tb (i := 339) (by decide +kernel) rfl
theorem qm_Reading_115 : Jvm.Cond.methodLink "PortableFiles$Reading" (115) ⟨"PortableFiles$Bytes", "hasWholeChunk", "(II)Z"⟩ ∈ pmW := pmW_tb (i := 295) (by decide +kernel) rfl
theorem qm_Reading_118 : Jvm.Cond.methodLink "PortableFiles$Reading" (118) ⟨"PortableFiles$Bytes", "number", "(I)I"⟩ ∈ pmW := pmW_tb (i := 299) (by decide +kernel) rfl
theorem qm_Reading_122 : Jvm.Cond.methodLink "PortableFiles$Reading" (122) ⟨"PortableFiles$Bytes", "dataLengthMayBe", "(I)Z"⟩ ∈ pmW := pmW_tb (i := 303) (by decide +kernel) rfl
theorem qm_Reading_126 : Jvm.Cond.methodLink "PortableFiles$Reading" (126) ⟨"PortableFiles$Letters", "mayBe", "(I)Z"⟩ ∈ pmW := pmW_tb (i := 306) (by decide +kernel) rfl
theorem qm_Reading_129 : Jvm.Cond.methodLink "PortableFiles$Reading" (129) ⟨"PortableFiles$Letters", "firstIsGreat", "(I)Z"⟩ ∈ pmW := pmW_tb (i := 336) (by decide +kernel) rfl
theorem qm_Reading_140 : Jvm.Cond.methodLink "PortableFiles$Reading" (140) ⟨"PortableFiles$Tags", "has", "(I)Z"⟩ ∈ pmW := pmW_tb (i := 349) (by decide +kernel) rfl
theorem qm_Reading_143 : Jvm.Cond.methodLink "PortableFiles$Reading" (143) ⟨"PortableFiles$Reading", "isGreyKind", "()Z"⟩ ∈ pmW := pmW_tb (i := 360) (by decide +kernel) rfl
theorem qm_Reading_152 : Jvm.Cond.methodLink "PortableFiles$Reading" (152) ⟨"PortableFiles$Reading", "takeHead", "(I)Z"⟩ ∈ pmW := pmW_tb (i := 374) (by decide +kernel) rfl
theorem qm_Reading_155 : Jvm.Cond.methodLink "PortableFiles$Reading" (155) ⟨"PortableFiles$Reading", "takeTag", "(II)Z"⟩ ∈ pmW := pmW_tb (i := 411) (by decide +kernel) rfl
theorem qm_Reading_158 : Jvm.Cond.methodLink "PortableFiles$Reading" (158) ⟨"PortableFiles$Bytes", "value", "(I)I"⟩ ∈ pmW := pmW_tb (i := 378) (by decide +kernel) rfl
theorem qm_Reading_161 : Jvm.Cond.methodLink "PortableFiles$Reading" (161) ⟨"PortableFiles$Reading", "takePalette", "(I)Z"⟩ ∈ pmW := pmW_tb (i := 422) (by decide +kernel) rfl
theorem qm_Reading_164 : Jvm.Cond.methodLink "PortableFiles$Reading" (164) ⟨"PortableFiles$Reading", "takeAlphas", "(I)Z"⟩ ∈ pmW := pmW_tb (i := 439) (by decide +kernel) rfl
theorem qm_Reading_167 : Jvm.Cond.methodLink "PortableFiles$Reading" (167) ⟨"PortableFiles$Reading", "takeRows", "(I)Z"⟩ ∈ pmW := pmW_tb (i := 451) (by decide +kernel) rfl
theorem qm_Reading_170 : Jvm.Cond.methodLink "PortableFiles$Reading" (170) ⟨"PortableFiles$Reading", "takeExtra", "(I)Z"⟩ ∈ pmW := pmW_tb (i := 459) (by decide +kernel) rfl
theorem qm_Reading_173 : Jvm.Cond.methodLink "PortableFiles$Reading" (173) ⟨"PortableFiles$Shape", "mayBe", "(IIII)Z"⟩ ∈ pmW := pmW_tb (i := 379) (by decide +kernel) rfl
theorem qm_Reading_176 : Jvm.Cond.methodLink "PortableFiles$Reading" (176) ⟨"PortableFiles$Picture", "begin", "(IIII)V"⟩ ∈ pmW := pmW_tb (i := 388) (by decide +kernel) rfl
theorem qm_Reading_179 : Jvm.Cond.methodLink "PortableFiles$Reading" (179) ⟨"PortableFiles$Tags", "mayBe", "(II)Z"⟩ ∈ pmW := pmW_tb (i := 415) (by decide +kernel) rfl
theorem qm_Reading_181 : Jvm.Cond.methodLink "PortableFiles$Reading" (181) ⟨"PortableFiles$Tags", "set", "(II)V"⟩ ∈ pmW := pmW_tb (i := 418) (by decide +kernel) rfl
theorem qm_Reading_188 : Jvm.Cond.methodLink "PortableFiles$Reading" (188) ⟨"PortableFiles$Palette", "most", "(I)I"⟩ ∈ pmW := pmW_tb (i := 426) (by decide +kernel) rfl
theorem qm_Reading_197 : Jvm.Cond.methodLink "PortableFiles$Reading" (197) ⟨"PortableFiles$Palette", "add", "(IIII)V"⟩ ∈ pmW := pmW_tb (i := 435) (by decide +kernel) rfl
theorem qm_Reading_203 : Jvm.Cond.methodLink "PortableFiles$Reading" (203) ⟨"PortableFiles$Palette", "setAlpha", "(II)V"⟩ ∈ pmW := pmW_tb (i := 443) (by decide +kernel) rfl
theorem qm_Reading_206 : Jvm.Cond.methodLink "PortableFiles$Reading" (206) ⟨"PortableFiles$Bytes", "add", "(I)V"⟩ ∈ pmW := pmW_tb (i := 455) (by decide +kernel) rfl
theorem qm_Reading_214 : Jvm.Cond.methodLink "PortableFiles$Reading" (214) ⟨"PortableFiles$Extras", "isFull", "()Z"⟩ ∈ pmW := pmW_tb (i := 463) (by decide +kernel) rfl
theorem qm_Reading_218 : Jvm.Cond.methodLink "PortableFiles$Reading" (218) ⟨"PortableFiles$Extras", "add", "(I)V"⟩ ∈ pmW := pmW_tb (i := 467) (by decide +kernel) rfl
theorem qm_Reading_219 : Jvm.Cond.methodLink "PortableFiles$Reading" (219) ⟨"PortableFiles$Extras", "addByte", "(II)V"⟩ ∈ pmW := pmW_tb (i := 472) (by decide +kernel) rfl
theorem qm_Reading_222 : Jvm.Cond.methodLink "PortableFiles$Reading" (222) ⟨"PortableFiles$Rows", "lengthOf", "(LPortableFiles$Picture;)I"⟩ ∈ pmW := pmW_tb (i := 484) (by decide +kernel) rfl
theorem qm_Reading_226 : Jvm.Cond.methodLink "PortableFiles$Reading" (226) ⟨"PortableFiles$Rows", "unpack", "(LPortableFiles$Bytes;LPortableFiles$Picture;)Z"⟩ ∈ pmW := pmW_tb (i := 493) (by decide +kernel) rfl
theorem qo_Reading_3 : Jvm.Cond.methodLink "PortableFiles$Reading" (3) ⟨"java/lang/Object", "<init>", "()V"⟩ ∈ pmW := pmW_tb (i := 186) (by decide +kernel) rfl
theorem qf_Tags_9 : pmFd "PortableFiles$Tags" 9 5 0 := ⟨_, rfl, by decide, pmW_tb (i := 62) (by decide +kernel) rfl⟩
theorem qm_Tags_15 : Jvm.Cond.methodLink "PortableFiles$Tags" (15) ⟨"java/util/Arrays", "fill", "([II)V"⟩ ∈ pmW := pmW_tb (i := 406) (by decide +kernel) rfl
theorem qm_Tags_21 : Jvm.Cond.methodLink "PortableFiles$Tags" (21) ⟨"PortableFiles$Tags", "value", "(I)I"⟩ ∈ pmW := pmW_tb (i := 353) (by decide +kernel) rfl
theorem qm_Tags_25 : Jvm.Cond.methodLink "PortableFiles$Tags" (25) ⟨"PortableFiles$Tags", "isTag", "(I)Z"⟩ ∈ pmW := pmW_tb (i := 357) (by decide +kernel) rfl
theorem qo_Tags_3 : Jvm.Cond.methodLink "PortableFiles$Tags" (3) ⟨"java/lang/Object", "<init>", "()V"⟩ ∈ pmW := pmW_tb (i := 61) (by decide +kernel) rfl
theorem qp_Tags_29 : Jvm.Cond.methodLink "PortableFiles$Tags" (29) ⟨"java/lang/System", "arraycopy", "(Ljava/lang/Object;ILjava/lang/Object;II)V"⟩ ∈ pmW := pmW_tb (i := 1028) (by decide +kernel) rfl
theorem qf_Writing_14 : pmFd "PortableFiles$Writing" 14 6 0 := ⟨_, rfl, by decide, pmW_tb (i := 170) (by decide +kernel) rfl⟩
theorem qf_Writing_20 : pmFd "PortableFiles$Writing" 20 6 1 := ⟨_, rfl, by decide, pmW_tb (i := 172) (by decide +kernel) rfl⟩
theorem qf_Writing_33 : pmFd "PortableFiles$Writing" 33 3 1 := ⟨_, rfl, by decide, pmW_tb (i := 94) (by decide +kernel) rfl⟩
theorem qf_Writing_43 : pmFd "PortableFiles$Writing" 43 3 8 := ⟨_, rfl, by decide, pmW_tb (i := 122) (by decide +kernel) rfl⟩
theorem qf_Writing_49 : pmFd "PortableFiles$Writing" 49 3 0 := ⟨_, rfl, by decide, pmW_tb (i := 89) (by decide +kernel) rfl⟩
theorem qf_Writing_63 : pmFd "PortableFiles$Writing" 63 3 2 := ⟨_, rfl, by decide, pmW_tb (i := 98) (by decide +kernel) rfl⟩
theorem qf_Writing_80 : pmFd "PortableFiles$Writing" 80 0 1 := ⟨_, rfl, by decide, pmW_tb (i := 163) (by decide +kernel) rfl⟩
theorem qf_Writing_83 : pmFd "PortableFiles$Writing" 83 6 2 := ⟨_, rfl, by decide, pmW_tb (i := 173) (by decide +kernel) rfl⟩
theorem qf_Writing_98 : pmFd "PortableFiles$Writing" 98 3 5 := ⟨_, rfl, by decide, pmW_tb (i := 105) (by decide +kernel) rfl⟩
theorem qf_Writing_101 : pmFd "PortableFiles$Writing" 101 3 6 := ⟨_, rfl, by decide, pmW_tb (i := 111) (by decide +kernel) rfl⟩
theorem qf_Writing_104 : pmFd "PortableFiles$Writing" 104 3 7 := ⟨_, rfl, by decide, pmW_tb (i := 118) (by decide +kernel) rfl⟩
theorem qf_Writing_124 : pmFd "PortableFiles$Writing" 124 2 1 := ⟨_, rfl, by decide, pmW_tb (i := 47) (by decide +kernel) rfl⟩
theorem qf_Writing_146 : pmFd "PortableFiles$Writing" 146 1 3 := ⟨_, rfl, by decide, pmW_tb (i := 77) (by decide +kernel) rfl⟩
theorem qc_Writing_73 : Jvm.Cond.constant "PortableFiles$Writing" (73) (1229278788) ∈ pmW := pmW_tb (i := 912) (by decide +kernel) rfl
theorem qc_Writing_97 : Jvm.Cond.constant "PortableFiles$Writing" (97) (1229472850) ∈ pmW := pmW_tb (i := 831) (by decide +kernel) rfl
theorem qc_Writing_116 : Jvm.Cond.constant "PortableFiles$Writing" (116) (1732332865) ∈ pmW := pmW_tb (i := 859) (by decide +kernel) rfl
theorem qc_Writing_121 : Jvm.Cond.constant "PortableFiles$Writing" (121) (1934772034) ∈ pmW := pmW_tb (i := 861) (by decide +kernel) rfl
theorem qc_Writing_122 : Jvm.Cond.constant "PortableFiles$Writing" (122) (1883789683) ∈ pmW := pmW_tb (i := 862) (by decide +kernel) rfl
theorem qc_Writing_123 : Jvm.Cond.constant "PortableFiles$Writing" (123) (1347179589) ∈ pmW := pmW_tb (i := 867) (by decide +kernel) rfl
theorem qc_Writing_134 : Jvm.Cond.constant "PortableFiles$Writing" (134) (1951551059) ∈ pmW := pmW_tb (i := 881) (by decide +kernel) rfl
theorem qc_Writing_144 : Jvm.Cond.constant "PortableFiles$Writing" (144) (1229209940) ∈ pmW := pmW_tb (i := 896) (by decide +kernel) rfl
theorem qn_Writing_7 : Jvm.Cond.classLink "PortableFiles$Writing" (7) "PortableFiles$Bytes" ∈ pmW := pmW_tb (i := 155) (by decide +kernel) rfl
theorem qm_Writing_11 : Jvm.Cond.methodLink "PortableFiles$Writing" (11) ⟨"PortableFiles$Bytes", "<init>", "(I)V"⟩ ∈ pmW := pmW_tb (i := 157) (by decide +kernel) rfl
theorem qm_Writing_23 : Jvm.Cond.methodLink "PortableFiles$Writing" (23) ⟨"PortableFiles$Bytes", "clear", "()V"⟩ ∈ pmW := pmW_tb (i := 821) (by decide +kernel) rfl
theorem qm_Writing_26 : Jvm.Cond.methodLink "PortableFiles$Writing" (26) ⟨"PortableFiles$Bytes", "addBeginning", "()V"⟩ ∈ pmW := pmW_tb (i := 822) (by decide +kernel) rfl
theorem qm_Writing_29 : Jvm.Cond.methodLink "PortableFiles$Writing" (29) ⟨"PortableFiles$Writing", "addHead", "(LPortableFiles$Picture;)V"⟩ ∈ pmW := pmW_tb (i := 827) (by decide +kernel) rfl
theorem qm_Writing_39 : Jvm.Cond.methodLink "PortableFiles$Writing" (39) ⟨"PortableFiles$Writing", "addTags", "(LPortableFiles$Tags;)V"⟩ ∈ pmW := pmW_tb (i := 854) (by decide +kernel) rfl
theorem qm_Writing_53 : Jvm.Cond.methodLink "PortableFiles$Writing" (53) ⟨"PortableFiles$Writing", "addPalette", "(LPortableFiles$Palette;)V"⟩ ∈ pmW := pmW_tb (i := 863) (by decide +kernel) rfl
theorem qm_Writing_57 : Jvm.Cond.methodLink "PortableFiles$Writing" (57) ⟨"PortableFiles$Writing", "addAlphas", "(LPortableFiles$Palette;)V"⟩ ∈ pmW := pmW_tb (i := 872) (by decide +kernel) rfl
theorem qm_Writing_60 : Jvm.Cond.methodLink "PortableFiles$Writing" (60) ⟨"PortableFiles$Writing", "addRows", "(LPortableFiles$Picture;)V"⟩ ∈ pmW := pmW_tb (i := 882) (by decide +kernel) rfl
theorem qm_Writing_67 : Jvm.Cond.methodLink "PortableFiles$Writing" (67) ⟨"PortableFiles$Writing", "addExtras", "(LPortableFiles$Extras;)V"⟩ ∈ pmW := pmW_tb (i := 898) (by decide +kernel) rfl
theorem qm_Writing_74 : Jvm.Cond.methodLink "PortableFiles$Writing" (74) ⟨"PortableFiles$Writing", "open", "(I)V"⟩ ∈ pmW := pmW_tb (i := 832) (by decide +kernel) rfl
theorem qm_Writing_77 : Jvm.Cond.methodLink "PortableFiles$Writing" (77) ⟨"PortableFiles$Writing", "close", "()V"⟩ ∈ pmW := pmW_tb (i := 841) (by decide +kernel) rfl
theorem qm_Writing_86 : Jvm.Cond.methodLink "PortableFiles$Writing" (86) ⟨"PortableFiles$Bytes", "addNumber", "(I)V"⟩ ∈ pmW := pmW_tb (i := 836) (by decide +kernel) rfl
theorem qm_Writing_89 : Jvm.Cond.methodLink "PortableFiles$Writing" (89) ⟨"PortableFiles$Bytes", "setNumber", "(II)V"⟩ ∈ pmW := pmW_tb (i := 845) (by decide +kernel) rfl
theorem qm_Writing_93 : Jvm.Cond.methodLink "PortableFiles$Writing" (93) ⟨"PortableFiles$Bytes", "rightSum", "(II)I"⟩ ∈ pmW := pmW_tb (i := 853) (by decide +kernel) rfl
theorem qm_Writing_107 : Jvm.Cond.methodLink "PortableFiles$Writing" (107) ⟨"PortableFiles$Bytes", "add", "(I)V"⟩ ∈ pmW := pmW_tb (i := 840) (by decide +kernel) rfl
theorem qm_Writing_112 : Jvm.Cond.methodLink "PortableFiles$Writing" (112) ⟨"PortableFiles$Tags", "has", "(I)Z"⟩ ∈ pmW := pmW_tb (i := 858) (by decide +kernel) rfl
theorem qm_Writing_117 : Jvm.Cond.methodLink "PortableFiles$Writing" (117) ⟨"PortableFiles$Tags", "value", "(I)I"⟩ ∈ pmW := pmW_tb (i := 860) (by decide +kernel) rfl
theorem qm_Writing_127 : Jvm.Cond.methodLink "PortableFiles$Writing" (127) ⟨"PortableFiles$Palette", "part", "(II)I"⟩ ∈ pmW := pmW_tb (i := 868) (by decide +kernel) rfl
theorem qm_Writing_130 : Jvm.Cond.methodLink "PortableFiles$Writing" (130) ⟨"PortableFiles$Palette", "alphasToTell", "()I"⟩ ∈ pmW := pmW_tb (i := 876) (by decide +kernel) rfl
theorem qm_Writing_135 : Jvm.Cond.methodLink "PortableFiles$Writing" (135) ⟨"PortableFiles$Rows", "pack", "(LPortableFiles$Picture;LPortableFiles$Bytes;)V"⟩ ∈ pmW := pmW_tb (i := 886) (by decide +kernel) rfl
theorem qm_Writing_139 : Jvm.Cond.methodLink "PortableFiles$Writing" (139) ⟨"java/lang/Math", "min", "(II)I"⟩ ∈ pmW := pmW_tb (i := 895) (by decide +kernel) rfl
theorem qm_Writing_145 : Jvm.Cond.methodLink "PortableFiles$Writing" (145) ⟨"PortableFiles$Bytes", "value", "(I)I"⟩ ∈ pmW := pmW_tb (i := 897) (by decide +kernel) rfl
theorem qm_Writing_149 : Jvm.Cond.methodLink "PortableFiles$Writing" (149) ⟨"PortableFiles$Extras", "lettersOf", "(I)I"⟩ ∈ pmW := pmW_tb (i := 902) (by decide +kernel) rfl
theorem qm_Writing_152 : Jvm.Cond.methodLink "PortableFiles$Writing" (152) ⟨"PortableFiles$Extras", "lengthOf", "(I)I"⟩ ∈ pmW := pmW_tb (i := 906) (by decide +kernel) rfl
theorem qm_Writing_155 : Jvm.Cond.methodLink "PortableFiles$Writing" (155) ⟨"PortableFiles$Extras", "value", "(II)I"⟩ ∈ pmW := pmW_tb (i := 907) (by decide +kernel) rfl
theorem qo_Writing_1 : Jvm.Cond.methodLink "PortableFiles$Writing" (1) ⟨"java/lang/Object", "<init>", "()V"⟩ ∈ pmW := pmW_tb (i := 154) (by decide +kernel) rfl
theorem qf_PF_10 : pmFd "PortableFiles" 10 7 0 := ⟨_, rfl, by decide, pmW_tb (i := 247) (by decide +kernel) rfl⟩
theorem qf_PF_19 : pmFd "PortableFiles" 19 7 1 := ⟨_, rfl, by decide, pmW_tb (i := 248) (by decide +kernel) rfl⟩
theorem qf_PF_26 : pmFd "PortableFiles" 26 7 2 := ⟨_, rfl, by decide, pmW_tb (i := 249) (by decide +kernel) rfl⟩
theorem qf_PF_47 : pmFd "PortableFiles" 47 3 4 := ⟨_, rfl, by decide, pmW_tb (i := 103) (by decide +kernel) rfl⟩
theorem qf_PF_51 : pmFd "PortableFiles" 51 3 8 := ⟨_, rfl, by decide, pmW_tb (i := 123) (by decide +kernel) rfl⟩
theorem qf_PF_66 : pmFd "PortableFiles" 66 3 0 := ⟨_, rfl, by decide, pmW_tb (i := 90) (by decide +kernel) rfl⟩
theorem qf_PF_70 : pmFd "PortableFiles" 70 2 1 := ⟨_, rfl, by decide, pmW_tb (i := 46) (by decide +kernel) rfl⟩
theorem qf_PF_75 : pmFd "PortableFiles" 75 3 7 := ⟨_, rfl, by decide, pmW_tb (i := 116) (by decide +kernel) rfl⟩
theorem qf_PF_129 : pmFd "PortableFiles" 129 3 1 := ⟨_, rfl, by decide, pmW_tb (i := 95) (by decide +kernel) rfl⟩
theorem qf_PF_147 : pmFd "PortableFiles" 147 3 2 := ⟨_, rfl, by decide, pmW_tb (i := 99) (by decide +kernel) rfl⟩
theorem qf_PF_162 : pmFd "PortableFiles" 162 1 3 := ⟨_, rfl, by decide, pmW_tb (i := 76) (by decide +kernel) rfl⟩
theorem qf_PF_189 : pmFd "PortableFiles" 189 6 0 := ⟨_, rfl, by decide, pmW_tb (i := 171) (by decide +kernel) rfl⟩
theorem qf_PF_193 : pmFd "PortableFiles" 193 0 1 := ⟨_, rfl, by decide, pmW_tb (i := 164) (by decide +kernel) rfl⟩
theorem qf_PF_203 : pmFd "PortableFiles" 203 4 0 := ⟨_, rfl, by decide, pmW_tb (i := 192) (by decide +kernel) rfl⟩
theorem qf_PF_224 : pmFd "PortableFiles" 224 4 3 := ⟨_, rfl, by decide, pmW_tb (i := 197) (by decide +kernel) rfl⟩
theorem qf_PF_227 : pmFd "PortableFiles" 227 4 6 := ⟨_, rfl, by decide, pmW_tb (i := 203) (by decide +kernel) rfl⟩
theorem qf_PF_230 : pmFd "PortableFiles" 230 4 5 := ⟨_, rfl, by decide, pmW_tb (i := 201) (by decide +kernel) rfl⟩
theorem qf_PF_236 : pmFd "PortableFiles" 236 4 1 := ⟨_, rfl, by decide, pmW_tb (i := 194) (by decide +kernel) rfl⟩
theorem qf_PF_239 : pmFd "PortableFiles" 239 3 5 := ⟨_, rfl, by decide, pmW_tb (i := 108) (by decide +kernel) rfl⟩
theorem qf_PF_242 : pmFd "PortableFiles" 242 3 6 := ⟨_, rfl, by decide, pmW_tb (i := 113) (by decide +kernel) rfl⟩
theorem qf_PF_245 : pmFd "PortableFiles" 245 4 7 := ⟨_, rfl, by decide, pmW_tb (i := 205) (by decide +kernel) rfl⟩
theorem qf_PF_268 : pmFd "PortableFiles" 268 4 4 := ⟨_, rfl, by decide, pmW_tb (i := 199) (by decide +kernel) rfl⟩
theorem qn_PF_7 : Jvm.Cond.classLink "PortableFiles" (7) "PortableFiles$Picture" ∈ pmW := pmW_tb (i := 32) (by decide +kernel) rfl
theorem qn_PF_16 : Jvm.Cond.classLink "PortableFiles" (16) "PortableFiles$Writing" ∈ pmW := pmW_tb (i := 149) (by decide +kernel) rfl
theorem qn_PF_23 : Jvm.Cond.classLink "PortableFiles" (23) "PortableFiles$Reading" ∈ pmW := pmW_tb (i := 181) (by decide +kernel) rfl
theorem qx_PF_36 : Jvm.Cond.classLink "PortableFiles" (36) "java/lang/IllegalArgumentException" ∈ pmW := pmW_tb (i := 539) (by decide +kernel) rfl
theorem qx_PF_55 : Jvm.Cond.classLink "PortableFiles" (55) "java/lang/IllegalStateException" ∈ pmW := pmW_tb (i := 618) (by decide +kernel) rfl
theorem qx_PF_82 : Jvm.Cond.classLink "PortableFiles" (82) "java/lang/UnsupportedOperationException" ∈ pmW := pmW_tb (i := 639) (by decide +kernel) rfl
theorem qx_PF_100 : Jvm.Cond.classLink "PortableFiles" (100) "java/lang/IndexOutOfBoundsException" ∈ pmW := pmW_tb (i := 688) (by decide +kernel) rfl
theorem qi_PF_40 : Jvm.Cond.methodLink "PortableFiles" (40) ⟨"java/lang/IllegalArgumentException", "<init>", "(Ljava/lang/String;)V"⟩ ∈ pmW := pmW_tb (i := 582) (by decide +kernel) rfl
theorem qi_PF_59 : Jvm.Cond.methodLink "PortableFiles" (59) ⟨"java/lang/IllegalStateException", "<init>", "(Ljava/lang/String;)V"⟩ ∈ pmW := pmW_tb (i := 628) (by decide +kernel) rfl
theorem qi_PF_86 : Jvm.Cond.methodLink "PortableFiles" (86) ⟨"java/lang/UnsupportedOperationException", "<init>", "(Ljava/lang/String;)V"⟩ ∈ pmW := pmW_tb (i := 649) (by decide +kernel) rfl
theorem qi_PF_104 : Jvm.Cond.methodLink "PortableFiles" (104) ⟨"java/lang/IndexOutOfBoundsException", "<init>", "(Ljava/lang/String;)V"⟩ ∈ pmW := pmW_tb (i := 698) (by decide +kernel) rfl
theorem qN_PF_9 : Jvm.Cond.methodLinkNest "PortableFiles" (9) ⟨"PortableFiles$Picture", "<init>", "()V"⟩ "PortableFiles" ∈ pmNest := by simp [pmNest]
theorem qN_PF_18 : Jvm.Cond.methodLinkNest "PortableFiles" (18) ⟨"PortableFiles$Writing", "<init>", "()V"⟩ "PortableFiles" ∈ pmNest := by simp [pmNest]
theorem qN_PF_25 : Jvm.Cond.methodLinkNest "PortableFiles" (25) ⟨"PortableFiles$Reading", "<init>", "()V"⟩ "PortableFiles" ∈ pmNest := by simp [pmNest]
theorem qm_PF_30 : Jvm.Cond.methodLink "PortableFiles" (30) ⟨"PortableFiles$Shape", "mayBe", "(IIII)Z"⟩ ∈ pmW := pmW_tb (i := 538) (by decide +kernel) rfl
theorem qm_PF_43 : Jvm.Cond.methodLink "PortableFiles" (43) ⟨"PortableFiles$Picture", "begin", "(IIII)V"⟩ ∈ pmW := pmW_tb (i := 608) (by decide +kernel) rfl
theorem qm_PF_60 : Jvm.Cond.methodLink "PortableFiles" (60) ⟨"PortableFiles", "isByte", "(I)Z"⟩ ∈ pmW := pmW_tb (i := 634) (by decide +kernel) rfl
theorem qm_PF_78 : Jvm.Cond.methodLink "PortableFiles" (78) ⟨"PortableFiles$Palette", "most", "(I)I"⟩ ∈ pmW := pmW_tb (i := 638) (by decide +kernel) rfl
theorem qm_PF_87 : Jvm.Cond.methodLink "PortableFiles" (87) ⟨"PortableFiles$Palette", "add", "(IIII)V"⟩ ∈ pmW := pmW_tb (i := 655) (by decide +kernel) rfl
theorem qm_PF_90 : Jvm.Cond.methodLink "PortableFiles" (90) ⟨"PortableFiles$Picture", "hasChanged", "()V"⟩ ∈ pmW := pmW_tb (i := 656) (by decide +kernel) rfl
theorem qm_PF_93 : Jvm.Cond.methodLink "PortableFiles" (93) ⟨"PortableFiles", "needPicture", "()V"⟩ ∈ pmW := pmW_tb (i := 682) (by decide +kernel) rfl
theorem qm_PF_96 : Jvm.Cond.methodLink "PortableFiles" (96) ⟨"PortableFiles$Picture", "has", "(III)Z"⟩ ∈ pmW := pmW_tb (i := 687) (by decide +kernel) rfl
theorem qm_PF_105 : Jvm.Cond.methodLink "PortableFiles" (105) ⟨"PortableFiles$Picture", "sampleMayBe", "(I)Z"⟩ ∈ pmW := pmW_tb (i := 704) (by decide +kernel) rfl
theorem qm_PF_110 : Jvm.Cond.methodLink "PortableFiles" (110) ⟨"PortableFiles$Picture", "sample", "(III)I"⟩ ∈ pmW := pmW_tb (i := 706) (by decide +kernel) rfl
theorem qm_PF_114 : Jvm.Cond.methodLink "PortableFiles" (114) ⟨"PortableFiles$Picture", "setSample", "(IIII)V"⟩ ∈ pmW := pmW_tb (i := 710) (by decide +kernel) rfl
theorem qm_PF_117 : Jvm.Cond.methodLink "PortableFiles" (117) ⟨"PortableFiles$Tags", "isTag", "(I)Z"⟩ ∈ pmW := pmW_tb (i := 718) (by decide +kernel) rfl
theorem qm_PF_124 : Jvm.Cond.methodLink "PortableFiles" (124) ⟨"PortableFiles$Tags", "mayBe", "(II)Z"⟩ ∈ pmW := pmW_tb (i := 720) (by decide +kernel) rfl
theorem qm_PF_133 : Jvm.Cond.methodLink "PortableFiles" (133) ⟨"PortableFiles$Tags", "value", "(I)I"⟩ ∈ pmW := pmW_tb (i := 722) (by decide +kernel) rfl
theorem qm_PF_136 : Jvm.Cond.methodLink "PortableFiles" (136) ⟨"PortableFiles$Tags", "set", "(II)V"⟩ ∈ pmW := pmW_tb (i := 723) (by decide +kernel) rfl
theorem qm_PF_140 : Jvm.Cond.methodLink "PortableFiles" (140) ⟨"PortableFiles$Letters", "areOfExtra", "(I)Z"⟩ ∈ pmW := pmW_tb (i := 731) (by decide +kernel) rfl
theorem qm_PF_151 : Jvm.Cond.methodLink "PortableFiles" (151) ⟨"PortableFiles$Extras", "isFull", "()Z"⟩ ∈ pmW := pmW_tb (i := 741) (by decide +kernel) rfl
theorem qm_PF_159 : Jvm.Cond.methodLink "PortableFiles" (159) ⟨"PortableFiles$Extras", "add", "(I)V"⟩ ∈ pmW := pmW_tb (i := 743) (by decide +kernel) rfl
theorem qm_PF_163 : Jvm.Cond.methodLink "PortableFiles" (163) ⟨"PortableFiles$Extras", "has", "(I)Z"⟩ ∈ pmW := pmW_tb (i := 751) (by decide +kernel) rfl
theorem qm_PF_167 : Jvm.Cond.methodLink "PortableFiles" (167) ⟨"PortableFiles", "needByte", "(I)V"⟩ ∈ pmW := pmW_tb (i := 753) (by decide +kernel) rfl
theorem qm_PF_170 : Jvm.Cond.methodLink "PortableFiles" (170) ⟨"PortableFiles$Extras", "lengthOf", "(I)I"⟩ ∈ pmW := pmW_tb (i := 757) (by decide +kernel) rfl
theorem qm_PF_175 : Jvm.Cond.methodLink "PortableFiles" (175) ⟨"PortableFiles$Extras", "addByte", "(II)V"⟩ ∈ pmW := pmW_tb (i := 762) (by decide +kernel) rfl
theorem qm_PF_178 : Jvm.Cond.methodLink "PortableFiles" (178) ⟨"PortableFiles$Lessening", "lessen", "(LPortableFiles$Picture;)V"⟩ ∈ pmW := pmW_tb (i := 770) (by decide +kernel) rfl
theorem qm_PF_186 : Jvm.Cond.methodLink "PortableFiles" (186) ⟨"PortableFiles$Writing", "run", "(LPortableFiles$Picture;)V"⟩ ∈ pmW := pmW_tb (i := 817) (by decide +kernel) rfl
theorem qm_PF_196 : Jvm.Cond.methodLink "PortableFiles" (196) ⟨"PortableFiles", "needWritten", "(I)V"⟩ ∈ pmW := pmW_tb (i := 920) (by decide +kernel) rfl
theorem qm_PF_199 : Jvm.Cond.methodLink "PortableFiles" (199) ⟨"PortableFiles$Bytes", "value", "(I)I"⟩ ∈ pmW := pmW_tb (i := 926) (by decide +kernel) rfl
theorem qm_PF_200 : Jvm.Cond.methodLink "PortableFiles" (200) ⟨"PortableFiles", "needRoom", "(I)V"⟩ ∈ pmW := pmW_tb (i := 934) (by decide +kernel) rfl
theorem qm_PF_206 : Jvm.Cond.methodLink "PortableFiles" (206) ⟨"PortableFiles$Bytes", "add", "(I)V"⟩ ∈ pmW := pmW_tb (i := 939) (by decide +kernel) rfl
theorem qm_PF_209 : Jvm.Cond.methodLink "PortableFiles" (209) ⟨"java/lang/Math", "min", "(II)I"⟩ ∈ pmW := pmW_tb (i := 948) (by decide +kernel) rfl
theorem qm_PF_215 : Jvm.Cond.methodLink "PortableFiles" (215) ⟨"PortableFiles$Bytes", "has", "(I)Z"⟩ ∈ pmW := pmW_tb (i := 924) (by decide +kernel) rfl
theorem qm_PF_218 : Jvm.Cond.methodLink "PortableFiles" (218) ⟨"PortableFiles$Bytes", "set", "(II)V"⟩ ∈ pmW := pmW_tb (i := 957) (by decide +kernel) rfl
theorem qm_PF_219 : Jvm.Cond.methodLink "PortableFiles" (219) ⟨"PortableFiles$Bytes", "mendSum", "(I)V"⟩ ∈ pmW := pmW_tb (i := 958) (by decide +kernel) rfl
theorem qm_PF_222 : Jvm.Cond.methodLink "PortableFiles" (222) ⟨"PortableFiles$Reading", "run", "()V"⟩ ∈ pmW := pmW_tb (i := 261) (by decide +kernel) rfl
theorem qm_PF_233 : Jvm.Cond.methodLink "PortableFiles" (233) ⟨"PortableFiles", "needReading", "()V"⟩ ∈ pmW := pmW_tb (i := 972) (by decide +kernel) rfl
theorem qm_PF_248 : Jvm.Cond.methodLink "PortableFiles" (248) ⟨"PortableFiles$Palette", "has", "(I)Z"⟩ ∈ pmW := pmW_tb (i := 992) (by decide +kernel) rfl
theorem qm_PF_253 : Jvm.Cond.methodLink "PortableFiles" (253) ⟨"PortableFiles$Palette", "part", "(II)I"⟩ ∈ pmW := pmW_tb (i := 995) (by decide +kernel) rfl
theorem qm_PF_260 : Jvm.Cond.methodLink "PortableFiles" (260) ⟨"PortableFiles$Extras", "lettersOf", "(I)I"⟩ ∈ pmW := pmW_tb (i := 1005) (by decide +kernel) rfl
theorem qm_PF_263 : Jvm.Cond.methodLink "PortableFiles" (263) ⟨"PortableFiles$Extras", "value", "(II)I"⟩ ∈ pmW := pmW_tb (i := 1006) (by decide +kernel) rfl
theorem qm_PF_265 : Jvm.Cond.methodLink "PortableFiles" (265) ⟨"PortableFiles$Picture", "copyFrom", "(LPortableFiles$Picture;)V"⟩ ∈ pmW := pmW_tb (i := 1014) (by decide +kernel) rfl
theorem qm_PF_271 : Jvm.Cond.methodLink "PortableFiles" (271) ⟨"PortableFiles$Bytes", "clear", "()V"⟩ ∈ pmW := pmW_tb (i := 529) (by decide +kernel) rfl
theorem qo_PF_1 : Jvm.Cond.methodLink "PortableFiles" (1) ⟨"java/lang/Object", "<init>", "()V"⟩ ∈ pmW := pmW_tb (i := 29) (by decide +kernel) rfl
theorem qt_PF_38 : (38, "no picture may have these sizes, bits or kind") ∈ pmStr := List.mem_of_getElem? (i := 0) rfl
theorem qt_PF_57 : (57, "there is no picture with a palette") ∈ pmStr := List.mem_of_getElem? (i := 1) rfl
theorem qt_PF_64 : (64, "a part of a colour is 0 .. 255") ∈ pmStr := List.mem_of_getElem? (i := 2) rfl
theorem qt_PF_84 : (84, "the palette is full") ∈ pmStr := List.mem_of_getElem? (i := 3) rfl
theorem qt_PF_102 : (102, "the picture has no such sample") ∈ pmStr := List.mem_of_getElem? (i := 4) rfl
theorem qt_PF_108 : (108, "a sample has no such number") ∈ pmStr := List.mem_of_getElem? (i := 5) rfl
theorem qt_PF_122 : (122, "there is no such tag") ∈ pmStr := List.mem_of_getElem? (i := 6) rfl
theorem qt_PF_127 : (127, "this tag has no such number") ∈ pmStr := List.mem_of_getElem? (i := 7) rfl
theorem qt_PF_145 : (145, "an extra may not have these letters") ∈ pmStr := List.mem_of_getElem? (i := 8) rfl
theorem qt_PF_157 : (157, "there are as many extras as may be") ∈ pmStr := List.mem_of_getElem? (i := 9) rfl
theorem qt_PF_165 : (165, "the picture has no such extra") ∈ pmStr := List.mem_of_getElem? (i := 10) rfl
theorem qt_PF_173 : (173, "the extra has as many bytes as may be") ∈ pmStr := List.mem_of_getElem? (i := 11) rfl
theorem qt_PF_184 : (184, "the palette has no entry") ∈ pmStr := List.mem_of_getElem? (i := 12) rfl
theorem qt_PF_207 : (207, "fewer bytes than none") ∈ pmStr := List.mem_of_getElem? (i := 13) rfl
theorem qt_PF_216 : (216, "no such byte was fed") ∈ pmStr := List.mem_of_getElem? (i := 14) rfl
theorem qt_PF_237 : (237, "what was read has no such sample") ∈ pmStr := List.mem_of_getElem? (i := 15) rfl
theorem qt_PF_249 : (249, "what was read has no such entry") ∈ pmStr := List.mem_of_getElem? (i := 16) rfl
theorem qt_PF_251 : (251, "an entry has no such part") ∈ pmStr := List.mem_of_getElem? (i := 17) rfl
theorem qt_PF_256 : (256, "what was read has no such extra") ∈ pmStr := List.mem_of_getElem? (i := 18) rfl
theorem qt_PF_258 : (258, "the extra has no such byte") ∈ pmStr := List.mem_of_getElem? (i := 19) rfl
theorem qt_PF_274 : (274, "there is no picture") ∈ pmStr := List.mem_of_getElem? (i := 20) rfl
theorem qt_PF_276 : (276, "nothing was read") ∈ pmStr := List.mem_of_getElem? (i := 21) rfl
theorem qt_PF_278 : (278, "no such byte was written") ∈ pmStr := List.mem_of_getElem? (i := 22) rfl
theorem qt_PF_280 : (280, "no more bytes can be fed") ∈ pmStr := List.mem_of_getElem? (i := 23) rfl
theorem qt_PF_282 : (282, "a byte is 0 .. 255") ∈ pmStr := List.mem_of_getElem? (i := 24) rfl
theorem qf_Ref_7 : pmFd "PortableFilesModel" 7 8 6 := ⟨_, rfl, by decide, pmW_tb (i := 1045) (by decide +kernel) rfl⟩
theorem qf_Ref_13 : pmFd "PortableFilesModel" 13 8 8 := ⟨_, rfl, by decide, pmW_tb (i := 1047) (by decide +kernel) rfl⟩
theorem qf_Ref_16 : pmFd "PortableFilesModel" 16 8 9 := ⟨_, rfl, by decide, pmW_tb (i := 1048) (by decide +kernel) rfl⟩
theorem qf_Ref_19 : pmFd "PortableFilesModel" 19 8 11 := ⟨_, rfl, by decide, pmW_tb (i := 1050) (by decide +kernel) rfl⟩
theorem qf_Ref_22 : pmFd "PortableFilesModel" 22 8 12 := ⟨_, rfl, by decide, pmW_tb (i := 1051) (by decide +kernel) rfl⟩
theorem qf_Ref_25 : pmFd "PortableFilesModel" 25 8 13 := ⟨_, rfl, by decide, pmW_tb (i := 1052) (by decide +kernel) rfl⟩
theorem qf_Ref_28 : pmFd "PortableFilesModel" 28 8 19 := ⟨_, rfl, by decide, pmW_tb (i := 1058) (by decide +kernel) rfl⟩
theorem qf_Ref_31 : pmFd "PortableFilesModel" 31 8 21 := ⟨_, rfl, by decide, pmW_tb (i := 1060) (by decide +kernel) rfl⟩
theorem qf_Ref_34 : pmFd "PortableFilesModel" 34 8 22 := ⟨_, rfl, by decide, pmW_tb (i := 1061) (by decide +kernel) rfl⟩
theorem qf_Ref_37 : pmFd "PortableFilesModel" 37 8 24 := ⟨_, rfl, by decide, pmW_tb (i := 1063) (by decide +kernel) rfl⟩
theorem qf_Ref_40 : pmFd "PortableFilesModel" 40 8 25 := ⟨_, rfl, by decide, pmW_tb (i := 1064) (by decide +kernel) rfl⟩
theorem qf_Ref_43 : pmFd "PortableFilesModel" 43 8 26 := ⟨_, rfl, by decide, pmW_tb (i := 1065) (by decide +kernel) rfl⟩
theorem qf_Ref_46 : pmFd "PortableFilesModel" 46 8 29 := ⟨_, rfl, by decide, pmW_tb (i := 1068) (by decide +kernel) rfl⟩
theorem qf_Ref_49 : pmFd "PortableFilesModel" 49 8 31 := ⟨_, rfl, by decide, pmW_tb (i := 1070) (by decide +kernel) rfl⟩
theorem qf_Ref_52 : pmFd "PortableFilesModel" 52 8 34 := ⟨_, rfl, by decide, pmW_tb (i := 1073) (by decide +kernel) rfl⟩
theorem qf_Ref_55 : pmFd "PortableFilesModel" 55 8 41 := ⟨_, rfl, by decide, pmW_tb (i := 1080) (by decide +kernel) rfl⟩
theorem qf_Ref_59 : pmFd "PortableFilesModel" 59 8 0 := ⟨_, rfl, by decide, pmW_tb (i := 1039) (by decide +kernel) rfl⟩
theorem qf_Ref_67 : pmFd "PortableFilesModel" 67 8 1 := ⟨_, rfl, by decide, pmW_tb (i := 1040) (by decide +kernel) rfl⟩
theorem qf_Ref_71 : pmFd "PortableFilesModel" 71 8 2 := ⟨_, rfl, by decide, pmW_tb (i := 1041) (by decide +kernel) rfl⟩
theorem qf_Ref_74 : pmFd "PortableFilesModel" 74 8 3 := ⟨_, rfl, by decide, pmW_tb (i := 1042) (by decide +kernel) rfl⟩
theorem qf_Ref_77 : pmFd "PortableFilesModel" 77 8 4 := ⟨_, rfl, by decide, pmW_tb (i := 1043) (by decide +kernel) rfl⟩
theorem qf_Ref_80 : pmFd "PortableFilesModel" 80 8 5 := ⟨_, rfl, by decide, pmW_tb (i := 1044) (by decide +kernel) rfl⟩
theorem qf_Ref_83 : pmFd "PortableFilesModel" 83 8 7 := ⟨_, rfl, by decide, pmW_tb (i := 1046) (by decide +kernel) rfl⟩
theorem qf_Ref_86 : pmFd "PortableFilesModel" 86 8 10 := ⟨_, rfl, by decide, pmW_tb (i := 1049) (by decide +kernel) rfl⟩
theorem qf_Ref_147 : pmFd "PortableFilesModel" 147 8 30 := ⟨_, rfl, by decide, pmW_tb (i := 1069) (by decide +kernel) rfl⟩
theorem qf_Ref_196 : pmFd "PortableFilesModel" 196 8 32 := ⟨_, rfl, by decide, pmW_tb (i := 1071) (by decide +kernel) rfl⟩
theorem qf_Ref_206 : pmFd "PortableFilesModel" 206 8 28 := ⟨_, rfl, by decide, pmW_tb (i := 1067) (by decide +kernel) rfl⟩
theorem qf_Ref_209 : pmFd "PortableFilesModel" 209 8 33 := ⟨_, rfl, by decide, pmW_tb (i := 1072) (by decide +kernel) rfl⟩
theorem qf_Ref_212 : pmFd "PortableFilesModel" 212 8 36 := ⟨_, rfl, by decide, pmW_tb (i := 1075) (by decide +kernel) rfl⟩
theorem qf_Ref_218 : pmFd "PortableFilesModel" 218 8 39 := ⟨_, rfl, by decide, pmW_tb (i := 1078) (by decide +kernel) rfl⟩
theorem qf_Ref_221 : pmFd "PortableFilesModel" 221 8 37 := ⟨_, rfl, by decide, pmW_tb (i := 1076) (by decide +kernel) rfl⟩
theorem qf_Ref_224 : pmFd "PortableFilesModel" 224 8 18 := ⟨_, rfl, by decide, pmW_tb (i := 1057) (by decide +kernel) rfl⟩
theorem qf_Ref_227 : pmFd "PortableFilesModel" 227 8 38 := ⟨_, rfl, by decide, pmW_tb (i := 1077) (by decide +kernel) rfl⟩
theorem qf_Ref_230 : pmFd "PortableFilesModel" 230 8 40 := ⟨_, rfl, by decide, pmW_tb (i := 1079) (by decide +kernel) rfl⟩
theorem qf_Ref_233 : pmFd "PortableFilesModel" 233 8 15 := ⟨_, rfl, by decide, pmW_tb (i := 1054) (by decide +kernel) rfl⟩
theorem qf_Ref_236 : pmFd "PortableFilesModel" 236 8 16 := ⟨_, rfl, by decide, pmW_tb (i := 1055) (by decide +kernel) rfl⟩
theorem qf_Ref_239 : pmFd "PortableFilesModel" 239 8 17 := ⟨_, rfl, by decide, pmW_tb (i := 1056) (by decide +kernel) rfl⟩
theorem qf_Ref_242 : pmFd "PortableFilesModel" 242 8 20 := ⟨_, rfl, by decide, pmW_tb (i := 1059) (by decide +kernel) rfl⟩
theorem qf_Ref_245 : pmFd "PortableFilesModel" 245 8 35 := ⟨_, rfl, by decide, pmW_tb (i := 1074) (by decide +kernel) rfl⟩
theorem qf_Ref_248 : pmFd "PortableFilesModel" 248 8 23 := ⟨_, rfl, by decide, pmW_tb (i := 1062) (by decide +kernel) rfl⟩
theorem qf_Ref_274 : pmFd "PortableFilesModel" 274 8 14 := ⟨_, rfl, by decide, pmW_tb (i := 1053) (by decide +kernel) rfl⟩
theorem qf_Ref_277 : pmFd "PortableFilesModel" 277 8 27 := ⟨_, rfl, by decide, pmW_tb (i := 1066) (by decide +kernel) rfl⟩
theorem qc_Ref_124 : Jvm.Cond.constant "PortableFilesModel" (124) (1732332865) ∈ pmW := pmW_tb (i := 1227) (by decide +kernel) rfl
theorem qc_Ref_125 : Jvm.Cond.constant "PortableFilesModel" (125) (1934772034) ∈ pmW := pmW_tb (i := 1228) (by decide +kernel) rfl
theorem qc_Ref_126 : Jvm.Cond.constant "PortableFilesModel" (126) (1883789683) ∈ pmW := pmW_tb (i := 1229) (by decide +kernel) rfl
theorem qc_Ref_127 : Jvm.Cond.constant "PortableFilesModel" (127) (1951551059) ∈ pmW := pmW_tb (i := 1230) (by decide +kernel) rfl
theorem qc_Ref_173 : Jvm.Cond.constant "PortableFilesModel" (173) (1347179589) ∈ pmW := pmW_tb (i := 1296) (by decide +kernel) rfl
theorem qc_Ref_178 : Jvm.Cond.constant "PortableFilesModel" (178) (1229209940) ∈ pmW := pmW_tb (i := 1304) (by decide +kernel) rfl
theorem qc_Ref_185 : Jvm.Cond.constant "PortableFilesModel" (185) (1229472850) ∈ pmW := pmW_tb (i := 1269) (by decide +kernel) rfl
theorem qc_Ref_195 : Jvm.Cond.constant "PortableFilesModel" (195) (1229278788) ∈ pmW := pmW_tb (i := 1309) (by decide +kernel) rfl
theorem qj_Ref_103 : Jvm.Cond.constantLong "PortableFilesModel" (103) (3) ∈ pmW := pmW_tb (i := 1206) (by decide +kernel) rfl
theorem qj_Ref_105 : Jvm.Cond.constantLong "PortableFilesModel" (105) (2147483647) ∈ pmW := pmW_tb (i := 1207) (by decide +kernel) rfl
theorem qj_Ref_154 : Jvm.Cond.constantLong "PortableFilesModel" (154) (4294967295) ∈ pmW := pmW_tb (i := 1285) (by decide +kernel) rfl
theorem qj_Ref_156 : Jvm.Cond.constantLong "PortableFilesModel" (156) (2) ∈ pmW := pmW_tb (i := 1286) (by decide +kernel) rfl
theorem qj_Ref_158 : Jvm.Cond.constantLong "PortableFilesModel" (158) (3988292384) ∈ pmW := pmW_tb (i := 1287) (by decide +kernel) rfl
theorem qm_Ref_63 : Jvm.Cond.methodLink "PortableFilesModel" (63) ⟨"PortableFilesModel", "isGood", "(IIII)Z"⟩ ∈ pmW := pmW_tb (i := 1175) (by decide +kernel) rfl
theorem qm_Ref_89 : Jvm.Cond.methodLink "PortableFilesModel" (89) ⟨"PortableFilesModel", "isByte", "(I)Z"⟩ ∈ pmW := pmW_tb (i := 1182) (by decide +kernel) rfl
theorem qm_Ref_93 : Jvm.Cond.methodLink "PortableFilesModel" (93) ⟨"PortableFilesModel", "mostEntries", "(I)I"⟩ ∈ pmW := pmW_tb (i := 1185) (by decide +kernel) rfl
theorem qm_Ref_97 : Jvm.Cond.methodLink "PortableFilesModel" (97) ⟨"PortableFilesModel", "change", "()V"⟩ ∈ pmW := pmW_tb (i := 1188) (by decide +kernel) rfl
theorem qm_Ref_100 : Jvm.Cond.methodLink "PortableFilesModel" (100) ⟨"PortableFilesModel", "channelsOf", "(I)I"⟩ ∈ pmW := pmW_tb (i := 1196) (by decide +kernel) rfl
theorem qm_Ref_107 : Jvm.Cond.methodLink "PortableFilesModel" (107) ⟨"PortableFilesModel", "mayBe", "(IJ)Z"⟩ ∈ pmW := pmW_tb (i := 1203) (by decide +kernel) rfl
theorem qm_Ref_111 : Jvm.Cond.methodLink "PortableFilesModel" (111) ⟨"PortableFilesModel", "letter", "(II)I"⟩ ∈ pmW := pmW_tb (i := 1218) (by decide +kernel) rfl
theorem qm_Ref_115 : Jvm.Cond.methodLink "PortableFilesModel" (115) ⟨"PortableFilesModel", "isGreat", "(I)Z"⟩ ∈ pmW := pmW_tb (i := 1221) (by decide +kernel) rfl
theorem qm_Ref_118 : Jvm.Cond.methodLink "PortableFilesModel" (118) ⟨"PortableFilesModel", "isSmall", "(I)Z"⟩ ∈ pmW := pmW_tb (i := 1224) (by decide +kernel) rfl
theorem qm_Ref_121 : Jvm.Cond.methodLink "PortableFilesModel" (121) ⟨"PortableFilesModel", "areLetters", "(I)Z"⟩ ∈ pmW := pmW_tb (i := 1215) (by decide +kernel) rfl
theorem qm_Ref_128 : Jvm.Cond.methodLink "PortableFilesModel" (128) ⟨"PortableFilesModel", "isOfOthers", "(I)Z"⟩ ∈ pmW := pmW_tb (i := 1212) (by decide +kernel) rfl
theorem qm_Ref_131 : Jvm.Cond.methodLink "PortableFilesModel" (131) ⟨"PortableFilesModel", "greatest", "(I)I"⟩ ∈ pmW := pmW_tb (i := 1255) (by decide +kernel) rfl
theorem qm_Ref_134 : Jvm.Cond.methodLink "PortableFilesModel" (134) ⟨"PortableFilesModel", "isFull", "(I)Z"⟩ ∈ pmW := pmW_tb (i := 1243) (by decide +kernel) rfl
theorem qm_Ref_137 : Jvm.Cond.methodLink "PortableFilesModel" (137) ⟨"PortableFilesModel", "isGrey", "()Z"⟩ ∈ pmW := pmW_tb (i := 1247) (by decide +kernel) rfl
theorem qm_Ref_141 : Jvm.Cond.methodLink "PortableFilesModel" (141) ⟨"PortableFilesModel", "fits", "(I)Z"⟩ ∈ pmW := pmW_tb (i := 1251) (by decide +kernel) rfl
theorem qm_Ref_144 : Jvm.Cond.methodLink "PortableFilesModel" (144) ⟨"PortableFilesModel", "lessen", "()V"⟩ ∈ pmW := pmW_tb (i := 1239) (by decide +kernel) rfl
theorem qm_Ref_150 : Jvm.Cond.methodLink "PortableFilesModel" (150) ⟨"PortableFilesModel", "tell", "(I)V"⟩ ∈ pmW := pmW_tb (i := 1265) (by decide +kernel) rfl
theorem qm_Ref_160 : Jvm.Cond.methodLink "PortableFilesModel" (160) ⟨"PortableFilesModel", "sumOf", "([III)I"⟩ ∈ pmW := pmW_tb (i := 1282) (by decide +kernel) rfl
theorem qm_Ref_164 : Jvm.Cond.methodLink "PortableFilesModel" (164) ⟨"PortableFilesModel", "tellNumber", "(I)V"⟩ ∈ pmW := pmW_tb (i := 1274) (by decide +kernel) rfl
theorem qm_Ref_167 : Jvm.Cond.methodLink "PortableFilesModel" (167) ⟨"PortableFilesModel", "open", "(I)I"⟩ ∈ pmW := pmW_tb (i := 1270) (by decide +kernel) rfl
theorem qm_Ref_170 : Jvm.Cond.methodLink "PortableFilesModel" (170) ⟨"PortableFilesModel", "close", "(I)V"⟩ ∈ pmW := pmW_tb (i := 1278) (by decide +kernel) rfl
theorem qm_Ref_174 : Jvm.Cond.methodLink "PortableFilesModel" (174) ⟨"PortableFilesModel", "bytesInRow", "(III)I"⟩ ∈ pmW := pmW_tb (i := 1301) (by decide +kernel) rfl
theorem qm_Ref_179 : Jvm.Cond.methodLink "PortableFilesModel" (179) ⟨"PortableFilesModel", "rowByte", "(I)I"⟩ ∈ pmW := pmW_tb (i := 1305) (by decide +kernel) rfl
theorem qm_Ref_182 : Jvm.Cond.methodLink "PortableFilesModel" (182) ⟨"PortableFilesModel", "mark", "(I)I"⟩ ∈ pmW := pmW_tb (i := 1262) (by decide +kernel) rfl
theorem qm_Ref_186 : Jvm.Cond.methodLink "PortableFilesModel" (186) ⟨"PortableFilesModel", "writeTags", "()V"⟩ ∈ pmW := pmW_tb (i := 1288) (by decide +kernel) rfl
theorem qm_Ref_189 : Jvm.Cond.methodLink "PortableFilesModel" (189) ⟨"PortableFilesModel", "writePalette", "()V"⟩ ∈ pmW := pmW_tb (i := 1292) (by decide +kernel) rfl
theorem qm_Ref_192 : Jvm.Cond.methodLink "PortableFilesModel" (192) ⟨"PortableFilesModel", "writeRows", "()V"⟩ ∈ pmW := pmW_tb (i := 1297) (by decide +kernel) rfl
theorem qm_Ref_199 : Jvm.Cond.methodLink "PortableFilesModel" (199) ⟨"PortableFilesModel", "four", "([II)I"⟩ ∈ pmW := pmW_tb (i := 1330) (by decide +kernel) rfl
theorem qm_Ref_203 : Jvm.Cond.methodLink "PortableFilesModel" (203) ⟨"PortableFilesModel", "endOf", "(I)I"⟩ ∈ pmW := pmW_tb (i := 1326) (by decide +kernel) rfl
theorem qm_Ref_215 : Jvm.Cond.methodLink "PortableFilesModel" (215) ⟨"PortableFilesModel", "tagOf", "(I)I"⟩ ∈ pmW := pmW_tb (i := 1353) (by decide +kernel) rfl
theorem qm_Ref_251 : Jvm.Cond.methodLink "PortableFilesModel" (251) ⟨"PortableFilesModel", "takeHead", "(II)Z"⟩ ∈ pmW := pmW_tb (i := 1360) (by decide +kernel) rfl
theorem qm_Ref_255 : Jvm.Cond.methodLink "PortableFilesModel" (255) ⟨"PortableFilesModel", "takePalette", "(II)Z"⟩ ∈ pmW := pmW_tb (i := 1364) (by decide +kernel) rfl
theorem qm_Ref_258 : Jvm.Cond.methodLink "PortableFilesModel" (258) ⟨"PortableFilesModel", "takeAlphas", "(II)Z"⟩ ∈ pmW := pmW_tb (i := 1368) (by decide +kernel) rfl
theorem qm_Ref_261 : Jvm.Cond.methodLink "PortableFilesModel" (261) ⟨"PortableFilesModel", "takeRows", "(II)Z"⟩ ∈ pmW := pmW_tb (i := 1372) (by decide +kernel) rfl
theorem qm_Ref_264 : Jvm.Cond.methodLink "PortableFilesModel" (264) ⟨"PortableFilesModel", "takeExtra", "(III)Z"⟩ ∈ pmW := pmW_tb (i := 1376) (by decide +kernel) rfl
theorem qm_Ref_268 : Jvm.Cond.methodLink "PortableFilesModel" (268) ⟨"PortableFilesModel", "takeTag", "(III)Z"⟩ ∈ pmW := pmW_tb (i := 1380) (by decide +kernel) rfl
theorem qm_Ref_271 : Jvm.Cond.methodLink "PortableFilesModel" (271) ⟨"PortableFilesModel", "rowBits", "(II)I"⟩ ∈ pmW := pmW_tb (i := 1388) (by decide +kernel) rfl
theorem qm_Ref_280 : Jvm.Cond.methodLink "PortableFilesModel" (280) ⟨"PortableFilesModel", "breakBy", "(ZII)V"⟩ ∈ pmW := pmW_tb (i := 1341) (by decide +kernel) rfl
theorem qm_Ref_284 : Jvm.Cond.methodLink "PortableFilesModel" (284) ⟨"PortableFilesModel", "isOutOfOrder", "(I)Z"⟩ ∈ pmW := pmW_tb (i := 1349) (by decide +kernel) rfl
theorem qm_Ref_287 : Jvm.Cond.methodLink "PortableFilesModel" (287) ⟨"PortableFilesModel", "takes", "(III)Z"⟩ ∈ pmW := pmW_tb (i := 1356) (by decide +kernel) rfl
theorem qm_Ref_290 : Jvm.Cond.methodLink "PortableFilesModel" (290) ⟨"PortableFilesModel", "unpack", "()Z"⟩ ∈ pmW := pmW_tb (i := 1384) (by decide +kernel) rfl
theorem qm_Ref_293 : Jvm.Cond.methodLink "PortableFilesModel" (293) ⟨"PortableFilesModel", "begin", "()V"⟩ ∈ pmW := pmW_tb (i := 1337) (by decide +kernel) rfl
theorem qm_Ref_296 : Jvm.Cond.methodLink "PortableFilesModel" (296) ⟨"PortableFilesModel", "chunk", "(I)I"⟩ ∈ pmW := pmW_tb (i := 1345) (by decide +kernel) rfl
theorem qo_Ref_1 : Jvm.Cond.methodLink "PortableFilesModel" (1) ⟨"java/lang/Object", "<init>", "()V"⟩ ∈ pmW := pmW_tb (i := 1038) (by decide +kernel) rfl
theorem qm_Shape_7 : Jvm.Cond.methodLink "PortableFiles$Shape" (7) ⟨"PortableFiles$Shape", "sideMayBe", "(I)Z"⟩ ∈ pmW := pmW_tb (i := 382) (by decide +kernel) rfl
theorem qm_Shape_13 : Jvm.Cond.methodLink "PortableFiles$Shape" (13) ⟨"PortableFiles$Shape", "bitsMayBe", "(II)Z"⟩ ∈ pmW := pmW_tb (i := 385) (by decide +kernel) rfl
theorem qc_Letters_26 : Jvm.Cond.constant "PortableFiles$Letters" (26) (1732332865) ∈ pmW := pmW_tb (i := 736) (by decide +kernel) rfl
theorem qc_Letters_27 : Jvm.Cond.constant "PortableFiles$Letters" (27) (1934772034) ∈ pmW := pmW_tb (i := 737) (by decide +kernel) rfl
theorem qc_Letters_28 : Jvm.Cond.constant "PortableFiles$Letters" (28) (1883789683) ∈ pmW := pmW_tb (i := 738) (by decide +kernel) rfl
theorem qc_Letters_29 : Jvm.Cond.constant "PortableFiles$Letters" (29) (1951551059) ∈ pmW := pmW_tb (i := 739) (by decide +kernel) rfl
theorem qm_Letters_7 : Jvm.Cond.methodLink "PortableFiles$Letters" (7) ⟨"PortableFiles$Letters", "letter", "(II)I"⟩ ∈ pmW := pmW_tb (i := 309) (by decide +kernel) rfl
theorem qm_Letters_13 : Jvm.Cond.methodLink "PortableFiles$Letters" (13) ⟨"PortableFiles$Letters", "isLetter", "(I)Z"⟩ ∈ pmW := pmW_tb (i := 312) (by decide +kernel) rfl
theorem qm_Letters_17 : Jvm.Cond.methodLink "PortableFiles$Letters" (17) ⟨"PortableFiles$Letters", "isGreat", "(I)Z"⟩ ∈ pmW := pmW_tb (i := 315) (by decide +kernel) rfl
theorem qm_Letters_20 : Jvm.Cond.methodLink "PortableFiles$Letters" (20) ⟨"PortableFiles$Letters", "mayBe", "(I)Z"⟩ ∈ pmW := pmW_tb (i := 734) (by decide +kernel) rfl
theorem qm_Letters_23 : Jvm.Cond.methodLink "PortableFiles$Letters" (23) ⟨"PortableFiles$Letters", "firstIsGreat", "(I)Z"⟩ ∈ pmW := pmW_tb (i := 735) (by decide +kernel) rfl
theorem qf_Rows_15 : pmFd "PortableFiles$Rows" 15 3 6 := ⟨_, rfl, by decide, pmW_tb (i := 110) (by decide +kernel) rfl⟩
theorem qf_Rows_46 : pmFd "PortableFiles$Rows" 46 3 5 := ⟨_, rfl, by decide, pmW_tb (i := 106) (by decide +kernel) rfl⟩
theorem qf_Rows_49 : pmFd "PortableFiles$Rows" 49 3 9 := ⟨_, rfl, by decide, pmW_tb (i := 126) (by decide +kernel) rfl⟩
theorem qf_Rows_52 : pmFd "PortableFiles$Rows" 52 3 7 := ⟨_, rfl, by decide, pmW_tb (i := 117) (by decide +kernel) rfl⟩
theorem qm_Rows_9 : Jvm.Cond.methodLink "PortableFiles$Rows" (9) ⟨"PortableFiles$Rows", "rowLength", "(LPortableFiles$Picture;)I"⟩ ∈ pmW := pmW_tb (i := 487) (by decide +kernel) rfl
theorem qm_Rows_21 : Jvm.Cond.methodLink "PortableFiles$Rows" (21) ⟨"PortableFiles$Bytes", "clear", "()V"⟩ ∈ pmW := pmW_tb (i := 889) (by decide +kernel) rfl
theorem qm_Rows_26 : Jvm.Cond.methodLink "PortableFiles$Rows" (26) ⟨"PortableFiles$Bytes", "add", "(I)V"⟩ ∈ pmW := pmW_tb (i := 890) (by decide +kernel) rfl
theorem qm_Rows_30 : Jvm.Cond.methodLink "PortableFiles$Rows" (30) ⟨"PortableFiles$Rows", "packRow", "(LPortableFiles$Picture;ILPortableFiles$Bytes;)V"⟩ ∈ pmW := pmW_tb (i := 891) (by decide +kernel) rfl
theorem qm_Rows_34 : Jvm.Cond.methodLink "PortableFiles$Rows" (34) ⟨"PortableFiles$Bytes", "value", "(I)I"⟩ ∈ pmW := pmW_tb (i := 496) (by decide +kernel) rfl
theorem qm_Rows_38 : Jvm.Cond.methodLink "PortableFiles$Rows" (38) ⟨"PortableFiles$Rows", "isFilledWithNought", "(ILPortableFiles$Picture;)Z"⟩ ∈ pmW := pmW_tb (i := 497) (by decide +kernel) rfl
theorem qm_Rows_42 : Jvm.Cond.methodLink "PortableFiles$Rows" (42) ⟨"PortableFiles$Rows", "unpackRow", "(LPortableFiles$Bytes;ILPortableFiles$Picture;I)Z"⟩ ∈ pmW := pmW_tb (i := 501) (by decide +kernel) rfl
theorem qm_Rows_55 : Jvm.Cond.methodLink "PortableFiles$Rows" (55) ⟨"PortableFiles$Picture", "sample", "(III)I"⟩ ∈ pmW := pmW_tb (i := 894) (by decide +kernel) rfl
theorem qm_Rows_59 : Jvm.Cond.methodLink "PortableFiles$Rows" (59) ⟨"PortableFiles$Shape", "greatest", "(I)I"⟩ ∈ pmW := pmW_tb (i := 500) (by decide +kernel) rfl
theorem qm_Rows_62 : Jvm.Cond.methodLink "PortableFiles$Rows" (62) ⟨"PortableFiles$Picture", "sampleMayBe", "(I)Z"⟩ ∈ pmW := pmW_tb (i := 504) (by decide +kernel) rfl
theorem qm_Rows_66 : Jvm.Cond.methodLink "PortableFiles$Rows" (66) ⟨"PortableFiles$Picture", "setSample", "(IIII)V"⟩ ∈ pmW := pmW_tb (i := 510) (by decide +kernel) rfl
theorem qm_Rows_70 : Jvm.Cond.methodLink "PortableFiles$Rows" (70) ⟨"PortableFiles$Rows", "rowBits", "(LPortableFiles$Picture;)I"⟩ ∈ pmW := pmW_tb (i := 490) (by decide +kernel) rfl
theorem qf_Less_7 : pmFd "PortableFiles$Lessening" 7 3 8 := ⟨_, rfl, by decide, pmW_tb (i := 121) (by decide +kernel) rfl⟩
theorem qf_Less_13 : pmFd "PortableFiles$Lessening" 13 3 7 := ⟨_, rfl, by decide, pmW_tb (i := 115) (by decide +kernel) rfl⟩
theorem qf_Less_63 : pmFd "PortableFiles$Lessening" 63 3 0 := ⟨_, rfl, by decide, pmW_tb (i := 91) (by decide +kernel) rfl⟩
theorem qf_Less_67 : pmFd "PortableFiles$Lessening" 67 2 1 := ⟨_, rfl, by decide, pmW_tb (i := 48) (by decide +kernel) rfl⟩
theorem qf_Less_75 : pmFd "PortableFiles$Lessening" 75 3 9 := ⟨_, rfl, by decide, pmW_tb (i := 127) (by decide +kernel) rfl⟩
theorem qf_Less_78 : pmFd "PortableFiles$Lessening" 78 3 6 := ⟨_, rfl, by decide, pmW_tb (i := 112) (by decide +kernel) rfl⟩
theorem qf_Less_81 : pmFd "PortableFiles$Lessening" 81 3 5 := ⟨_, rfl, by decide, pmW_tb (i := 107) (by decide +kernel) rfl⟩
theorem qm_Less_16 : Jvm.Cond.methodLink "PortableFiles$Lessening" (16) ⟨"PortableFiles$Lessening", "lessenAlpha", "(LPortableFiles$Picture;)V"⟩ ∈ pmW := pmW_tb (i := 773) (by decide +kernel) rfl
theorem qm_Less_22 : Jvm.Cond.methodLink "PortableFiles$Lessening" (22) ⟨"PortableFiles$Lessening", "lessenColours", "(LPortableFiles$Picture;)V"⟩ ∈ pmW := pmW_tb (i := 784) (by decide +kernel) rfl
theorem qm_Less_25 : Jvm.Cond.methodLink "PortableFiles$Lessening" (25) ⟨"PortableFiles$Lessening", "lessenGreyBits", "(LPortableFiles$Picture;)V"⟩ ∈ pmW := pmW_tb (i := 790) (by decide +kernel) rfl
theorem qm_Less_30 : Jvm.Cond.methodLink "PortableFiles$Lessening" (30) ⟨"PortableFiles$Lessening", "lessenPaletteBits", "(LPortableFiles$Picture;)V"⟩ ∈ pmW := pmW_tb (i := 804) (by decide +kernel) rfl
theorem qm_Less_33 : Jvm.Cond.methodLink "PortableFiles$Lessening" (33) ⟨"PortableFiles$Picture", "hasChanged", "()V"⟩ ∈ pmW := pmW_tb (i := 808) (by decide +kernel) rfl
theorem qm_Less_36 : Jvm.Cond.methodLink "PortableFiles$Lessening" (36) ⟨"PortableFiles$Lessening", "isOpaque", "(LPortableFiles$Picture;)Z"⟩ ∈ pmW := pmW_tb (i := 776) (by decide +kernel) rfl
theorem qm_Less_40 : Jvm.Cond.methodLink "PortableFiles$Lessening" (40) ⟨"PortableFiles$Picture", "become", "(II)V"⟩ ∈ pmW := pmW_tb (i := 780) (by decide +kernel) rfl
theorem qm_Less_44 : Jvm.Cond.methodLink "PortableFiles$Lessening" (44) ⟨"PortableFiles$Lessening", "isGreyEverywhere", "(LPortableFiles$Picture;)Z"⟩ ∈ pmW := pmW_tb (i := 787) (by decide +kernel) rfl
theorem qm_Less_47 : Jvm.Cond.methodLink "PortableFiles$Lessening" (47) ⟨"PortableFiles$Lessening", "stepOf", "(II)I"⟩ ∈ pmW := pmW_tb (i := 793) (by decide +kernel) rfl
theorem qm_Less_51 : Jvm.Cond.methodLink "PortableFiles$Lessening" (51) ⟨"PortableFiles$Lessening", "allAreTimes", "(LPortableFiles$Picture;I)Z"⟩ ∈ pmW := pmW_tb (i := 797) (by decide +kernel) rfl
theorem qm_Less_55 : Jvm.Cond.methodLink "PortableFiles$Lessening" (55) ⟨"PortableFiles$Lessening", "divideAll", "(LPortableFiles$Picture;I)V"⟩ ∈ pmW := pmW_tb (i := 800) (by decide +kernel) rfl
theorem qm_Less_59 : Jvm.Cond.methodLink "PortableFiles$Lessening" (59) ⟨"PortableFiles$Shape", "greatest", "(I)I"⟩ ∈ pmW := pmW_tb (i := 796) (by decide +kernel) rfl
theorem qm_Less_72 : Jvm.Cond.methodLink "PortableFiles$Lessening" (72) ⟨"PortableFiles$Palette", "most", "(I)I"⟩ ∈ pmW := pmW_tb (i := 807) (by decide +kernel) rfl
theorem qm_Less_84 : Jvm.Cond.methodLink "PortableFiles$Lessening" (84) ⟨"PortableFiles$Picture", "sample", "(III)I"⟩ ∈ pmW := pmW_tb (i := 779) (by decide +kernel) rfl
theorem qm_Less_88 : Jvm.Cond.methodLink "PortableFiles$Lessening" (88) ⟨"PortableFiles$Picture", "setSample", "(IIII)V"⟩ ∈ pmW := pmW_tb (i := 803) (by decide +kernel) rfl
theorem qn_Law_8 : Jvm.Cond.classLink "PortableFilesLaw" (8) "PortableFiles" ∈ pmW := pmW_tb (i := 24) (by decide +kernel) rfl
theorem qn_Law_76 : Jvm.Cond.classLink "PortableFilesLaw" (76) "PortableFilesModel" ∈ pmW := pmW_tb (i := 1033) (by decide +kernel) rfl
theorem qm_Law_7 : Jvm.Cond.methodLink "PortableFilesLaw" (7) ⟨"PortableFiles", "head", "(IIII)V"⟩ ∈ pmW := pmW_tb (i := 534) (by decide +kernel) rfl
theorem qm_Law_15 : Jvm.Cond.methodLink "PortableFilesLaw" (15) ⟨"PortableFiles", "colour", "(IIII)I"⟩ ∈ pmW := pmW_tb (i := 614) (by decide +kernel) rfl
theorem qm_Law_23 : Jvm.Cond.methodLink "PortableFilesLaw" (23) ⟨"PortableFiles", "put", "(IIII)I"⟩ ∈ pmW := pmW_tb (i := 678) (by decide +kernel) rfl
theorem qm_Law_28 : Jvm.Cond.methodLink "PortableFilesLaw" (28) ⟨"PortableFiles", "tag", "(II)I"⟩ ∈ pmW := pmW_tb (i := 714) (by decide +kernel) rfl
theorem qm_Law_32 : Jvm.Cond.methodLink "PortableFilesLaw" (32) ⟨"PortableFiles", "extra", "(I)I"⟩ ∈ pmW := pmW_tb (i := 727) (by decide +kernel) rfl
theorem qm_Law_36 : Jvm.Cond.methodLink "PortableFilesLaw" (36) ⟨"PortableFiles", "byteOf", "(II)I"⟩ ∈ pmW := pmW_tb (i := 747) (by decide +kernel) rfl
theorem qm_Law_39 : Jvm.Cond.methodLink "PortableFilesLaw" (39) ⟨"PortableFiles", "reduce", "()I"⟩ ∈ pmW := pmW_tb (i := 766) (by decide +kernel) rfl
theorem qm_Law_43 : Jvm.Cond.methodLink "PortableFilesLaw" (43) ⟨"PortableFiles", "write", "()I"⟩ ∈ pmW := pmW_tb (i := 812) (by decide +kernel) rfl
theorem qm_Law_46 : Jvm.Cond.methodLink "PortableFilesLaw" (46) ⟨"PortableFiles", "byteAt", "(I)I"⟩ ∈ pmW := pmW_tb (i := 916) (by decide +kernel) rfl
theorem qm_Law_49 : Jvm.Cond.methodLink "PortableFilesLaw" (49) ⟨"PortableFiles", "feed", "(I)I"⟩ ∈ pmW := pmW_tb (i := 930) (by decide +kernel) rfl
theorem qm_Law_52 : Jvm.Cond.methodLink "PortableFilesLaw" (52) ⟨"PortableFiles", "pass", "(II)I"⟩ ∈ pmW := pmW_tb (i := 943) (by decide +kernel) rfl
theorem qm_Law_55 : Jvm.Cond.methodLink "PortableFilesLaw" (55) ⟨"PortableFiles", "alter", "(IIZ)I"⟩ ∈ pmW := pmW_tb (i := 952) (by decide +kernel) rfl
theorem qm_Law_59 : Jvm.Cond.methodLink "PortableFilesLaw" (59) ⟨"PortableFiles", "at", "(III)I"⟩ ∈ pmW := pmW_tb (i := 968) (by decide +kernel) rfl
theorem qm_Law_63 : Jvm.Cond.methodLink "PortableFilesLaw" (63) ⟨"PortableFiles", "found", "(I)I"⟩ ∈ pmW := pmW_tb (i := 981) (by decide +kernel) rfl
theorem qm_Law_66 : Jvm.Cond.methodLink "PortableFilesLaw" (66) ⟨"PortableFiles", "entry", "(II)I"⟩ ∈ pmW := pmW_tb (i := 988) (by decide +kernel) rfl
theorem qm_Law_69 : Jvm.Cond.methodLink "PortableFilesLaw" (69) ⟨"PortableFiles", "unknown", "(II)I"⟩ ∈ pmW := pmW_tb (i := 999) (by decide +kernel) rfl
theorem qm_Law_72 : Jvm.Cond.methodLink "PortableFilesLaw" (72) ⟨"PortableFiles", "take", "()V"⟩ ∈ pmW := pmW_tb (i := 1010) (by decide +kernel) rfl
theorem qm_Law_75 : Jvm.Cond.methodLink "PortableFilesLaw" (75) ⟨"PortableFiles", "<init>", "()V"⟩ ∈ pmW := pmW_tb (i := 26) (by decide +kernel) rfl
theorem qm_Law_78 : Jvm.Cond.methodLink "PortableFilesLaw" (78) ⟨"PortableFilesModel", "<init>", "()V"⟩ ∈ pmW := pmW_tb (i := 1035) (by decide +kernel) rfl
theorem qm_Law_79 : Jvm.Cond.methodLink "PortableFilesLaw" (79) ⟨"PortableFilesLaw", "head", "(LPortableFiles;IIII)I"⟩ ∈ pmW := pmW_tb (i := 530) (by decide +kernel) rfl
theorem qm_Law_84 : Jvm.Cond.methodLink "PortableFilesLaw" (84) ⟨"PortableFilesModel", "head", "(IIII)V"⟩ ∈ pmW := pmW_tb (i := 1171) (by decide +kernel) rfl
theorem qm_Law_85 : Jvm.Cond.methodLink "PortableFilesLaw" (85) ⟨"PortableFilesModel", "thrown", "()I"⟩ ∈ pmW := pmW_tb (i := 1167) (by decide +kernel) rfl
theorem qm_Law_88 : Jvm.Cond.methodLink "PortableFilesLaw" (88) ⟨"PortableFilesLaw", "colour", "(LPortableFiles;IIII[J)I"⟩ ∈ pmW := pmW_tb (i := 609) (by decide +kernel) rfl
theorem qm_Law_91 : Jvm.Cond.methodLink "PortableFilesLaw" (91) ⟨"PortableFilesModel", "colour", "(IIII)I"⟩ ∈ pmW := pmW_tb (i := 1178) (by decide +kernel) rfl
theorem qm_Law_92 : Jvm.Cond.methodLink "PortableFilesLaw" (92) ⟨"PortableFilesLaw", "put", "(LPortableFiles;IIII[J)I"⟩ ∈ pmW := pmW_tb (i := 674) (by decide +kernel) rfl
theorem qm_Law_94 : Jvm.Cond.methodLink "PortableFilesLaw" (94) ⟨"PortableFilesModel", "put", "(IIII)I"⟩ ∈ pmW := pmW_tb (i := 1192) (by decide +kernel) rfl
theorem qm_Law_95 : Jvm.Cond.methodLink "PortableFilesLaw" (95) ⟨"PortableFilesLaw", "tag", "(LPortableFiles;II[J)I"⟩ ∈ pmW := pmW_tb (i := 711) (by decide +kernel) rfl
theorem qm_Law_98 : Jvm.Cond.methodLink "PortableFilesLaw" (98) ⟨"PortableFilesModel", "tag", "(II)I"⟩ ∈ pmW := pmW_tb (i := 1199) (by decide +kernel) rfl
theorem qm_Law_99 : Jvm.Cond.methodLink "PortableFilesLaw" (99) ⟨"PortableFilesLaw", "extra", "(LPortableFiles;I[J)I"⟩ ∈ pmW := pmW_tb (i := 724) (by decide +kernel) rfl
theorem qm_Law_102 : Jvm.Cond.methodLink "PortableFilesLaw" (102) ⟨"PortableFilesModel", "extra", "(I)I"⟩ ∈ pmW := pmW_tb (i := 1208) (by decide +kernel) rfl
theorem qm_Law_103 : Jvm.Cond.methodLink "PortableFilesLaw" (103) ⟨"PortableFilesLaw", "byteOf", "(LPortableFiles;II[J)I"⟩ ∈ pmW := pmW_tb (i := 744) (by decide +kernel) rfl
theorem qm_Law_105 : Jvm.Cond.methodLink "PortableFilesLaw" (105) ⟨"PortableFilesModel", "byteOf", "(II)I"⟩ ∈ pmW := pmW_tb (i := 1231) (by decide +kernel) rfl
theorem qm_Law_106 : Jvm.Cond.methodLink "PortableFilesLaw" (106) ⟨"PortableFilesLaw", "reduce", "(LPortableFiles;[J)I"⟩ ∈ pmW := pmW_tb (i := 763) (by decide +kernel) rfl
theorem qm_Law_109 : Jvm.Cond.methodLink "PortableFilesLaw" (109) ⟨"PortableFilesModel", "reduce", "()I"⟩ ∈ pmW := pmW_tb (i := 1235) (by decide +kernel) rfl
theorem qm_Law_110 : Jvm.Cond.methodLink "PortableFilesLaw" (110) ⟨"PortableFilesLaw", "write", "(LPortableFiles;[J)I"⟩ ∈ pmW := pmW_tb (i := 809) (by decide +kernel) rfl
theorem qm_Law_112 : Jvm.Cond.methodLink "PortableFilesLaw" (112) ⟨"PortableFilesModel", "write", "()I"⟩ ∈ pmW := pmW_tb (i := 1258) (by decide +kernel) rfl
theorem qm_Law_113 : Jvm.Cond.methodLink "PortableFilesLaw" (113) ⟨"PortableFilesLaw", "byteAt", "(LPortableFiles;I[J)I"⟩ ∈ pmW := pmW_tb (i := 913) (by decide +kernel) rfl
theorem qm_Law_115 : Jvm.Cond.methodLink "PortableFilesLaw" (115) ⟨"PortableFilesModel", "byteAt", "(I)I"⟩ ∈ pmW := pmW_tb (i := 1310) (by decide +kernel) rfl
theorem qm_Law_116 : Jvm.Cond.methodLink "PortableFilesLaw" (116) ⟨"PortableFilesLaw", "feed", "(LPortableFiles;I[J)I"⟩ ∈ pmW := pmW_tb (i := 927) (by decide +kernel) rfl
theorem qm_Law_118 : Jvm.Cond.methodLink "PortableFilesLaw" (118) ⟨"PortableFilesModel", "feed", "(I)I"⟩ ∈ pmW := pmW_tb (i := 1314) (by decide +kernel) rfl
theorem qm_Law_119 : Jvm.Cond.methodLink "PortableFilesLaw" (119) ⟨"PortableFilesLaw", "pass", "(LPortableFiles;II[J)I"⟩ ∈ pmW := pmW_tb (i := 940) (by decide +kernel) rfl
theorem qm_Law_121 : Jvm.Cond.methodLink "PortableFilesLaw" (121) ⟨"PortableFilesModel", "pass", "(II)I"⟩ ∈ pmW := pmW_tb (i := 1318) (by decide +kernel) rfl
theorem qm_Law_122 : Jvm.Cond.methodLink "PortableFilesLaw" (122) ⟨"PortableFilesLaw", "alter", "(LPortableFiles;IIZ[J)I"⟩ ∈ pmW := pmW_tb (i := 949) (by decide +kernel) rfl
theorem qm_Law_125 : Jvm.Cond.methodLink "PortableFilesLaw" (125) ⟨"PortableFilesModel", "alter", "(IIZ)I"⟩ ∈ pmW := pmW_tb (i := 1322) (by decide +kernel) rfl
theorem qm_Law_126 : Jvm.Cond.methodLink "PortableFilesLaw" (126) ⟨"PortableFiles", "read", "()I"⟩ ∈ pmW := pmW_tb (i := 257) (by decide +kernel) rfl
theorem qm_Law_129 : Jvm.Cond.methodLink "PortableFilesLaw" (129) ⟨"PortableFilesModel", "read", "()I"⟩ ∈ pmW := pmW_tb (i := 1333) (by decide +kernel) rfl
theorem qm_Law_130 : Jvm.Cond.methodLink "PortableFilesLaw" (130) ⟨"PortableFilesLaw", "at", "(LPortableFiles;III[J)I"⟩ ∈ pmW := pmW_tb (i := 965) (by decide +kernel) rfl
theorem qm_Law_133 : Jvm.Cond.methodLink "PortableFilesLaw" (133) ⟨"PortableFilesModel", "at", "(III)I"⟩ ∈ pmW := pmW_tb (i := 1392) (by decide +kernel) rfl
theorem qm_Law_134 : Jvm.Cond.methodLink "PortableFilesLaw" (134) ⟨"PortableFilesLaw", "found", "(LPortableFiles;I[J)I"⟩ ∈ pmW := pmW_tb (i := 978) (by decide +kernel) rfl
theorem qm_Law_136 : Jvm.Cond.methodLink "PortableFilesLaw" (136) ⟨"PortableFilesModel", "found", "(I)I"⟩ ∈ pmW := pmW_tb (i := 1396) (by decide +kernel) rfl
theorem qm_Law_137 : Jvm.Cond.methodLink "PortableFilesLaw" (137) ⟨"PortableFilesLaw", "entry", "(LPortableFiles;II[J)I"⟩ ∈ pmW := pmW_tb (i := 985) (by decide +kernel) rfl
theorem qm_Law_139 : Jvm.Cond.methodLink "PortableFilesLaw" (139) ⟨"PortableFilesModel", "entry", "(II)I"⟩ ∈ pmW := pmW_tb (i := 1400) (by decide +kernel) rfl
theorem qm_Law_140 : Jvm.Cond.methodLink "PortableFilesLaw" (140) ⟨"PortableFilesLaw", "unknown", "(LPortableFiles;II[J)I"⟩ ∈ pmW := pmW_tb (i := 996) (by decide +kernel) rfl
theorem qm_Law_142 : Jvm.Cond.methodLink "PortableFilesLaw" (142) ⟨"PortableFilesModel", "unknown", "(II)I"⟩ ∈ pmW := pmW_tb (i := 1404) (by decide +kernel) rfl
theorem qm_Law_143 : Jvm.Cond.methodLink "PortableFilesLaw" (143) ⟨"PortableFilesLaw", "take", "(LPortableFiles;)I"⟩ ∈ pmW := pmW_tb (i := 1007) (by decide +kernel) rfl
theorem qm_Law_146 : Jvm.Cond.methodLink "PortableFilesLaw" (146) ⟨"PortableFilesModel", "take", "()V"⟩ ∈ pmW := pmW_tb (i := 1408) (by decide +kernel) rfl
theorem qm_Law_147 : Jvm.Cond.methodLink "PortableFilesLaw" (147) ⟨"PortableFiles", "told", "(I)I"⟩ ∈ pmW := pmW_tb (i := 521) (by decide +kernel) rfl
theorem qm_Law_150 : Jvm.Cond.methodLink "PortableFilesLaw" (150) ⟨"PortableFilesModel", "told", "(I)I"⟩ ∈ pmW := pmW_tb (i := 1412) (by decide +kernel) rfl
theorem qm_Law_151 : Jvm.Cond.methodLink "PortableFilesLaw" (151) ⟨"PortableFiles", "drop", "()V"⟩ ∈ pmW := pmW_tb (i := 525) (by decide +kernel) rfl
theorem qm_Law_154 : Jvm.Cond.methodLink "PortableFilesLaw" (154) ⟨"PortableFilesModel", "drop", "()V"⟩ ∈ pmW := pmW_tb (i := 1416) (by decide +kernel) rfl
theorem qh_Law_13 : Jvm.Cond.classLink "PortableFilesLaw" (13) "java/lang/IllegalArgumentException" ∈ pmW := pmW_tb (i := 533) (by decide +kernel) rfl
theorem qh_Law_19 : Jvm.Cond.classLink "PortableFilesLaw" (19) "java/lang/IllegalStateException" ∈ pmW := pmW_tb (i := 612) (by decide +kernel) rfl
theorem qh_Law_21 : Jvm.Cond.classLink "PortableFilesLaw" (21) "java/lang/UnsupportedOperationException" ∈ pmW := pmW_tb (i := 613) (by decide +kernel) rfl
theorem qh_Law_26 : Jvm.Cond.classLink "PortableFilesLaw" (26) "java/lang/IndexOutOfBoundsException" ∈ pmW := pmW_tb (i := 677) (by decide +kernel) rfl
theorem qw_oi : Jvm.Cond.instanceMethod ⟨"java/lang/Object", "<init>", "()V"⟩ ∈ pmW := pmW_tb (i := 30) (by decide +kernel) rfl
theorem qw_an : Jvm.Cond.native ⟨"java/lang/System", "arraycopy", "(Ljava/lang/Object;ILjava/lang/Object;II)V"⟩ ∈ pmW := pmW_tb (i := 673) (by decide +kernel) rfl
theorem qw_as : Jvm.Cond.static ⟨"java/lang/System", "arraycopy", "(Ljava/lang/Object;ILjava/lang/Object;II)V"⟩ ∈ pmW := pmW_tb (i := 672) (by decide +kernel) rfl
theorem qw_ai : Jvm.Cond.initialized "java/lang/System" ∈ pmW := pmW_tb (i := 20) (by decide +kernel) rfl
theorem qw_I : Jvm.Cond.arrayClass Jvm.ClassFile.FieldType.int ∈ pmW := pmW_tb (i := 55) (by decide +kernel) rfl
theorem qw_J : Jvm.Cond.arrayClass Jvm.ClassFile.FieldType.long ∈ pmW := pmW_tb (i := 1420) (by decide +kernel) rfl
theorem qw_Z : Jvm.Cond.arrayClass Jvm.ClassFile.FieldType.boolean ∈ pmW := pmW_tb (i := 1166) (by decide +kernel) rfl
theorem qw_oc : Cond.code objectInit ⟨#[0xb1]⟩ 1 none ∈ pmW := pmW_tb (i := 31) (by decide +kernel) rfl
