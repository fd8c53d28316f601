set_option maxHeartbeats 4000000 in
theorem c_Bytes_has {E : pmEv} {h : pmH} {z : Option Nat} {b v N : Nat} {f : Nat → Int32} {c : Nat} {i : Int32} (hB : IsB h b v N f c) : Call E mBytes_has [.ref b, .int i] h z 0 0 (Ret (some (.int (bI (0 ≤ i ∧ i < nI c)))) (h, z, false)) := by
  refine call_of (L := [some (.ref b), some (.int i)]) ok_mBytes_has (Nat.le_of_ble_eq_true rfl) ?_
  refine go_iload_n dBytes_has_0 rfl ?_
  refine go_if_lt (tgt := 16) dBytes_has_1 (fun c1 => ?_) (fun c1 => ?_)
  · refine go_iconst (v := 0) dBytes_has_16 (by decide) ?_
    refine go_iret dBytes_has_17 rfl rfl ?_ (Nat.le_of_ble_eq_true rfl) (Nat.le_of_ble_eq_true rfl)
    first | exact ret_bf (fun q => absurd q.1 (Int32.not_le.mpr c1)) | exact ret_bf (fun q => absurd q.2 (Int32.not_lt.mpr c2))
  · refine go_iload_n dBytes_has_4 rfl ?_
    refine go_aload_n dBytes_has_5 rfl ?_
    refine go_getf dBytes_has_6 qf_Bytes_13 hB.1 rfl ?_
    refine go_icmp_ge (tgt := 16) dBytes_has_9 (fun c2 => ?_) (fun c2 => ?_)
    · refine go_iconst (v := 0) dBytes_has_16 (by decide) ?_
      refine go_iret dBytes_has_17 rfl rfl ?_ (Nat.le_of_ble_eq_true rfl) (Nat.le_of_ble_eq_true rfl)
      first | exact ret_bf (fun q => absurd q.1 (Int32.not_le.mpr c1)) | exact ret_bf (fun q => absurd q.2 (Int32.not_lt.mpr c2))
    · refine go_iconst (v := 1) dBytes_has_12 (by decide) ?_
      refine go_goto (tgt := 17) dBytes_has_13 ?_
      refine go_iret dBytes_has_17 rfl rfl ?_ (Nat.le_of_ble_eq_true rfl) (Nat.le_of_ble_eq_true rfl)
      exact ret_bt ⟨Int32.not_lt.mp c1, Int32.not_le.mp c2⟩
set_option maxHeartbeats 4000000 in
theorem c_Bytes_value {E : pmEv} {h : pmH} {z : Option Nat} {b v N : Nat} {f : Nat → Int32} {c : Nat} {i : Int32} (hB : IsB h b v N f c) : Call E mBytes_value [.ref b, .int i] h z 0 0 (Ret (some (.int (bv f c i))) (h, z, false)) := by
  refine call_of (L := [some (.ref b), some (.int i)]) ok_mBytes_value (Nat.le_of_ble_eq_true rfl) ?_
  refine go_aload_n dBytes_value_0 rfl ?_
  refine go_iload_n dBytes_value_1 rfl ?_
  refine go_virtR dBytes_value_2 ok_mBytes_has im_mBytes_has se_mBytes_has qm_Bytes_17 hB.1 (c_Bytes_has hB) ?_ (hnp := np_mBytes_has)
  refine go_ifeq_b (tgt := 17) dBytes_value_5 (fun c1 => ?_) (fun c1 => ?_)
  · refine go_iconst (v := 0) dBytes_value_17 (by decide) ?_
    refine go_iret dBytes_value_18 rfl rfl ?_ (Nat.le_of_ble_eq_true rfl) (Nat.le_of_ble_eq_true rfl)
    exact ret_e (by simp [bv, c1])
  · refine go_aload_n dBytes_value_8 rfl ?_
    refine go_getf dBytes_value_9 qf_Bytes_7 hB.1 rfl ?_
    refine go_iload_n dBytes_value_12 rfl ?_
    refine go_iald dBytes_value_13 hB.2.1 (by exact in_has c1 hB.2.2.1 hB.2.2.2) rfl ?_
    refine go_goto (tgt := 18) dBytes_value_14 ?_
    refine go_iret dBytes_value_18 rfl rfl ?_ (Nat.le_of_ble_eq_true rfl) (Nat.le_of_ble_eq_true rfl)
    exact ret_e (by simp [bv, c1])
set_option maxHeartbeats 4000000 in
theorem c_Bytes_set {E : pmEv} {h : pmH} {z : Option Nat} {b v N : Nat} {f : Nat → Int32} {c : Nat} {i x : Int32} (hB : IsB h b v N f c) : Call E mBytes_set [.ref b, .int i, .int x] h z 0 0 (RetW none (HB h b v N (bs f c i x) c) z) := by
  refine call_of (L := [some (.ref b), some (.int i), some (.int x)]) ok_mBytes_set (Nat.le_of_ble_eq_true rfl) ?_
  refine go_aload_n dBytes_set_0 rfl ?_
  refine go_iload_n dBytes_set_1 rfl ?_
  refine go_virtR dBytes_set_2 ok_mBytes_has im_mBytes_has se_mBytes_has qm_Bytes_17 hB.1 (c_Bytes_has hB) ?_ (hnp := np_mBytes_has)
  refine go_ifeq_b (tgt := 15) dBytes_set_5 (fun c1 => ?_) (fun c1 => ?_)
  · refine go_vret dBytes_set_15 rfl ?_ (Nat.le_of_ble_eq_true rfl) (Nat.le_of_ble_eq_true rfl)
    exact retW_e rfl (by simp only [bs, if_neg c1]; exact (HB_self hB).symm)
  · refine go_aload_n dBytes_set_8 rfl ?_
    refine go_getf dBytes_set_9 qf_Bytes_7 hB.1 rfl ?_
    refine go_iload_n dBytes_set_12 rfl ?_
    refine go_iload_n dBytes_set_13 rfl ?_
    refine go_iast dBytes_set_14 hB.2.1 (by exact in_has c1 hB.2.2.1 hB.2.2.2) rfl ?_
    refine go_vret dBytes_set_15 rfl ?_ (Nat.le_of_ble_eq_true rfl) (Nat.le_of_ble_eq_true rfl)
    exact retW_e rfl (by simp only [bs, if_pos c1]; exact HB_v hB)
set_option maxHeartbeats 4000000 in
theorem c_Bytes_clear {E : pmEv} {h : pmH} {z : Option Nat} {b v N : Nat} {f : Nat → Int32} {c : Nat} (hB : IsB h b v N f c) : Call E mBytes_clear [.ref b] h z 0 0 (RetW none (HB h b v N f 0) z) := by
  refine call_of (L := [some (.ref b)]) ok_mBytes_clear (Nat.le_of_ble_eq_true rfl) ?_
  refine go_aload_n dBytes_clear_0 rfl ?_
  refine go_iconst (v := 0) dBytes_clear_1 (by decide) ?_
  refine go_putf dBytes_clear_2 qf_Bytes_13 pw_0_1 hB.1 rfl rfl ?_
  refine go_vret dBytes_clear_5 rfl ?_ (Nat.le_of_ble_eq_true rfl) (Nat.le_of_ble_eq_true rfl)
  exact retW_e rfl (by unfold HB; rw [pmU_self hB.2.1]; rfl)
set_option maxHeartbeats 4000000 in
theorem c_Bytes_add {E : pmEv} {h : pmH} {z : Option Nat} {b v N : Nat} {f : Nat → Int32} {c : Nat} {x : Int32} (hB : IsB h b v N f c) : Call E mBytes_add [.ref b, .int x] h z 0 0 (RetW none (HB h b v N (bA N (f, c) x).1 (bA N (f, c) x).2) z) := by
  refine call_of (L := [some (.ref b), some (.int x)]) ok_mBytes_add (Nat.le_of_ble_eq_true rfl) ?_
  refine go_aload_n dBytes_add_0 rfl ?_
  refine go_getf dBytes_add_1 qf_Bytes_13 hB.1 rfl ?_
  refine go_aload_n dBytes_add_4 rfl ?_
  refine go_getf dBytes_add_5 qf_Bytes_7 hB.1 rfl ?_
  refine go_alen dBytes_add_8 hB.2.1 rfl ?_
  refine go_icmp_ge (tgt := 32) dBytes_add_9 (fun c1 => ?_) (fun c1 => ?_)
  · refine go_vret dBytes_add_32 rfl ?_ (Nat.le_of_ble_eq_true rfl) (Nat.le_of_ble_eq_true rfl)
    exact retW_e rfl (by rw [bA, if_neg (bN_ge hB c1)]; exact (HB_self hB).symm)
  · refine go_aload_n dBytes_add_12 rfl ?_
    refine go_getf dBytes_add_13 qf_Bytes_7 hB.1 rfl ?_
    refine go_aload_n dBytes_add_16 rfl ?_
    refine go_getf dBytes_add_17 qf_Bytes_13 hB.1 rfl ?_
    refine go_iload_n dBytes_add_20 rfl ?_
    refine go_iast dBytes_add_21 hB.2.1 (by exact bN_in hB (bN_lt hB c1)) rfl ?_
    refine go_aload_n dBytes_add_22 rfl ?_
    refine go_dup dBytes_add_23 rfl ?_
    refine go_getf dBytes_add_24 qf_Bytes_13 ((pmU_n _ _ hB.ne).trans hB.1) rfl ?_
    refine go_iconst (v := 1) dBytes_add_27 (by decide) ?_
    refine go_iadd dBytes_add_28 ?_
    refine go_putf dBytes_add_29 qf_Bytes_13 pw_0_1 ((pmU_n _ _ hB.ne).trans hB.1) rfl rfl ?_
    refine go_vret dBytes_add_32 rfl ?_ (Nat.le_of_ble_eq_true rfl) (Nat.le_of_ble_eq_true rfl)
    exact retW_e rfl (by rw [bA, if_pos (bN_lt hB c1), nI_clamp (bN_31 hB)]; unfold HB; rw [nI_succ]; rfl)
set_option maxHeartbeats 4000000 in
theorem c_Bytes_sumPlace {E : pmEv} {h : pmH} {z : Option Nat} {a l : Int32} : Call E mBytes_sumPlace [.int a, .int l] h z 0 0 (Ret (some (.int (a + 8 + l))) (h, z, false)) := by
  refine call_of (L := [some (.int a), some (.int l)]) ok_mBytes_sumPlace (Nat.le_of_ble_eq_true rfl) ?_
  refine go_iload_n dBytes_sumPlace_0 rfl ?_
  refine go_bipush (v := 8) dBytes_sumPlace_1 (by decide) ?_
  refine go_iadd dBytes_sumPlace_3 ?_
  refine go_iload_n dBytes_sumPlace_4 rfl ?_
  refine go_iadd dBytes_sumPlace_5 ?_
  refine go_iret dBytes_sumPlace_6 rfl rfl ?_ (Nat.le_of_ble_eq_true rfl) (Nat.le_of_ble_eq_true rfl)
  exact ret_v
set_option maxHeartbeats 4000000 in
theorem c_Bytes_dataLengthMayBe {E : pmEv} {h : pmH} {z : Option Nat} {l : Int32} : Call E mBytes_dataLengthMayBe [.int l] h z 0 0 (Ret (some (.int (bI (0 ≤ l ∧ l ≤ 255)))) (h, z, false)) := by
  refine call_of (L := [some (.int l)]) ok_mBytes_dataLengthMayBe (Nat.le_of_ble_eq_true rfl) ?_
  refine go_iload_n dBytes_dataLengthMayBe_0 rfl ?_
  refine go_if_lt (tgt := 15) dBytes_dataLengthMayBe_1 (fun c1 => ?_) (fun c1 => ?_)
  · refine go_iconst (v := 0) dBytes_dataLengthMayBe_15 (by decide) ?_
    refine go_iret dBytes_dataLengthMayBe_16 rfl rfl ?_ (Nat.le_of_ble_eq_true rfl) (Nat.le_of_ble_eq_true rfl)
    exact ret_bf (fun q => absurd q.1 (Int32.not_le.mpr c1))
  · refine go_iload_n dBytes_dataLengthMayBe_4 rfl ?_
    refine go_sipush (v := 255) dBytes_dataLengthMayBe_5 (by decide) ?_
    refine go_icmp_gt (tgt := 15) dBytes_dataLengthMayBe_8 (fun c2 => ?_) (fun c2 => ?_)
    · refine go_iconst (v := 0) dBytes_dataLengthMayBe_15 (by decide) ?_
      refine go_iret dBytes_dataLengthMayBe_16 rfl rfl ?_ (Nat.le_of_ble_eq_true rfl) (Nat.le_of_ble_eq_true rfl)
      exact ret_bf (fun q => absurd q.2 (Int32.not_le.mpr c2))
    · refine go_iconst (v := 1) dBytes_dataLengthMayBe_11 (by decide) ?_
      refine go_goto (tgt := 16) dBytes_dataLengthMayBe_12 ?_
      refine go_iret dBytes_dataLengthMayBe_16 rfl rfl ?_ (Nat.le_of_ble_eq_true rfl) (Nat.le_of_ble_eq_true rfl)
      exact ret_bt ⟨Int32.not_lt.mp c1, Int32.not_lt.mp c2⟩
set_option maxHeartbeats 4000000 in
theorem c_Bytes_hasWholeChunk {E : pmEv} {h : pmH} {z : Option Nat} {b v N : Nat} {f : Nat → Int32} {c : Nat} {a l : Int32} (hB : IsB h b v N f c) : Call E mBytes_hasWholeChunk [.ref b, .int a, .int l] h z 0 0 (Ret (some (.int (bI (12 + l ≤ nI c - a)))) (h, z, false)) := by
  refine call_of (L := [some (.ref b), some (.int a), some (.int l)]) ok_mBytes_hasWholeChunk (Nat.le_of_ble_eq_true rfl) ?_
  refine go_aload_n dBytes_hasWholeChunk_0 rfl ?_
  refine go_getf dBytes_hasWholeChunk_1 qf_Bytes_13 hB.1 rfl ?_
  refine go_iload_n dBytes_hasWholeChunk_4 rfl ?_
  refine go_isub dBytes_hasWholeChunk_5 ?_
  refine go_bipush (v := 12) dBytes_hasWholeChunk_6 (by decide) ?_
  refine go_iload_n dBytes_hasWholeChunk_8 rfl ?_
  refine go_iadd dBytes_hasWholeChunk_9 ?_
  refine go_icmp_lt (tgt := 17) dBytes_hasWholeChunk_10 (fun c1 => ?_) (fun c1 => ?_)
  · refine go_iconst (v := 0) dBytes_hasWholeChunk_17 (by decide) ?_
    refine go_iret dBytes_hasWholeChunk_18 rfl rfl ?_ (Nat.le_of_ble_eq_true rfl) (Nat.le_of_ble_eq_true rfl)
    exact ret_bf (by first | exact Int32.not_le.mpr c1 | exact c1)
  · refine go_iconst (v := 1) dBytes_hasWholeChunk_13 (by decide) ?_
    refine go_goto (tgt := 18) dBytes_hasWholeChunk_14 ?_
    refine go_iret dBytes_hasWholeChunk_18 rfl rfl ?_ (Nat.le_of_ble_eq_true rfl) (Nat.le_of_ble_eq_true rfl)
    exact ret_bt (by first | exact Int32.not_lt.mp c1 | exact c1)
set_option maxHeartbeats 4000000 in
theorem c_Bytes_number {E : pmEv} {h : pmH} {z : Option Nat} {b v N : Nat} {f : Nat → Int32} {c : Nat} {i : Int32} (hB : IsB h b v N f c) : Call E mBytes_number [.ref b, .int i] h z 0 0 (Ret (some (.int (bN4 f c i))) (h, z, false)) := by
  refine call_of (L := [some (.ref b), some (.int i)]) ok_mBytes_number (Nat.le_of_ble_eq_true rfl) ?_
  refine go_aload_n dBytes_number_0 rfl ?_
  refine go_iload_n dBytes_number_1 rfl ?_
  refine go_virtR dBytes_number_2 ok_mBytes_value im_mBytes_value se_mBytes_value qm_Bytes_21 hB.1 (c_Bytes_value hB) ?_ (hnp := np_mBytes_value)
  refine go_bipush (v := 24) dBytes_number_5 (by decide) ?_
  refine go_ishl dBytes_number_7 ?_
  refine go_aload_n dBytes_number_8 rfl ?_
  refine go_iload_n dBytes_number_9 rfl ?_
  refine go_iconst (v := 1) dBytes_number_10 (by decide) ?_
  refine go_iadd dBytes_number_11 ?_
  refine go_virtR dBytes_number_12 ok_mBytes_value im_mBytes_value se_mBytes_value qm_Bytes_21 hB.1 (c_Bytes_value hB) ?_ (hnp := np_mBytes_value)
  refine go_bipush (v := 16) dBytes_number_15 (by decide) ?_
  refine go_ishl dBytes_number_17 ?_
  refine go_ior dBytes_number_18 ?_
  refine go_aload_n dBytes_number_19 rfl ?_
  refine go_iload_n dBytes_number_20 rfl ?_
  refine go_iconst (v := 2) dBytes_number_21 (by decide) ?_
  refine go_iadd dBytes_number_22 ?_
  refine go_virtR dBytes_number_23 ok_mBytes_value im_mBytes_value se_mBytes_value qm_Bytes_21 hB.1 (c_Bytes_value hB) ?_ (hnp := np_mBytes_value)
  refine go_bipush (v := 8) dBytes_number_26 (by decide) ?_
  refine go_ishl dBytes_number_28 ?_
  refine go_ior dBytes_number_29 ?_
  refine go_aload_n dBytes_number_30 rfl ?_
  refine go_iload_n dBytes_number_31 rfl ?_
  refine go_iconst (v := 3) dBytes_number_32 (by decide) ?_
  refine go_iadd dBytes_number_33 ?_
  refine go_virtR dBytes_number_34 ok_mBytes_value im_mBytes_value se_mBytes_value qm_Bytes_21 hB.1 (c_Bytes_value hB) ?_ (hnp := np_mBytes_value)
  refine go_ior dBytes_number_37 ?_
  refine go_iret dBytes_number_38 rfl rfl ?_ (Nat.le_of_ble_eq_true rfl) (Nat.le_of_ble_eq_true rfl)
  exact ret_v
set_option maxHeartbeats 4000000 in
theorem c_Bytes_addNumber {E : pmEv} {h : pmH} {z : Option Nat} {b v N : Nat} {f : Nat → Int32} {c : Nat} {x : Int32} (hB : IsB h b v N f c) : Call E mBytes_addNumber [.ref b, .int x] h z 0 0 (RetW none (HB h b v N (bA4 N (f, c) x).1 (bA4 N (f, c) x).2) z) := by
  refine call_of (L := [some (.ref b), some (.int x)]) ok_mBytes_addNumber (Nat.le_of_ble_eq_true rfl) ?_
  refine go_aload_n dBytes_addNumber_0 rfl ?_
  refine go_iload_n dBytes_addNumber_1 rfl ?_
  refine go_bipush (v := 24) dBytes_addNumber_2 (by decide) ?_
  refine go_iushr dBytes_addNumber_4 ?_
  refine go_virtW dBytes_addNumber_5 ok_mBytes_add im_mBytes_add se_mBytes_add qm_Bytes_29 hB.1 (c_Bytes_add hB) (fun _ => ?_) (hnp := np_mBytes_add)
  refine go_nB hB (bA_le _ hB.2.2.1) (fun h1 e1 hB1 => ?_)
  refine go_aload_n dBytes_addNumber_8 rfl ?_
  refine go_iload_n dBytes_addNumber_9 rfl ?_
  refine go_bipush (v := 16) dBytes_addNumber_10 (by decide) ?_
  refine go_iushr dBytes_addNumber_12 ?_
  refine go_sipush (v := 255) dBytes_addNumber_13 (by decide) ?_
  refine go_iand dBytes_addNumber_16 ?_
  refine go_virtW dBytes_addNumber_17 ok_mBytes_add im_mBytes_add se_mBytes_add qm_Bytes_29 hB1.1 (c_Bytes_add hB1) (fun _ => ?_) (hnp := np_mBytes_add)
  refine go_nB hB1 (bA_le _ hB1.2.2.1) (fun h2 e2 hB2 => ?_)
  refine go_aload_n dBytes_addNumber_20 rfl ?_
  refine go_iload_n dBytes_addNumber_21 rfl ?_
  refine go_bipush (v := 8) dBytes_addNumber_22 (by decide) ?_
  refine go_iushr dBytes_addNumber_24 ?_
  refine go_sipush (v := 255) dBytes_addNumber_25 (by decide) ?_
  refine go_iand dBytes_addNumber_28 ?_
  refine go_virtW dBytes_addNumber_29 ok_mBytes_add im_mBytes_add se_mBytes_add qm_Bytes_29 hB2.1 (c_Bytes_add hB2) (fun _ => ?_) (hnp := np_mBytes_add)
  refine go_nB hB2 (bA_le _ hB2.2.2.1) (fun h3 e3 hB3 => ?_)
  refine go_aload_n dBytes_addNumber_32 rfl ?_
  refine go_iload_n dBytes_addNumber_33 rfl ?_
  refine go_sipush (v := 255) dBytes_addNumber_34 (by decide) ?_
  refine go_iand dBytes_addNumber_37 ?_
  refine go_virtW dBytes_addNumber_38 ok_mBytes_add im_mBytes_add se_mBytes_add qm_Bytes_29 hB3.1 (c_Bytes_add hB3) (fun _ => ?_) (hnp := np_mBytes_add)
  refine go_nB hB3 (bA_le _ hB3.2.2.1) (fun h4 e4 hB4 => ?_)
  refine go_vret dBytes_addNumber_41 rfl ?_ (Nat.le_of_ble_eq_true rfl) (Nat.le_of_ble_eq_true rfl)
  exact retW_e rfl (by rw [e4, e3, e2, e1]; simp only [HB_HB hB.ne]; rfl)
set_option maxHeartbeats 4000000 in
theorem c_Bytes_setNumber {E : pmEv} {h : pmH} {z : Option Nat} {b v N : Nat} {f : Nat → Int32} {c : Nat} {i x : Int32} (hB : IsB h b v N f c) : Call E mBytes_setNumber [.ref b, .int i, .int x] h z 0 0 (RetW none (HB h b v N (bs4 f c i x) c) z) := by
  refine call_of (L := [some (.ref b), some (.int i), some (.int x)]) ok_mBytes_setNumber (Nat.le_of_ble_eq_true rfl) ?_
  refine go_aload_n dBytes_setNumber_0 rfl ?_
  refine go_iload_n dBytes_setNumber_1 rfl ?_
  refine go_iload_n dBytes_setNumber_2 rfl ?_
  refine go_bipush (v := 24) dBytes_setNumber_3 (by decide) ?_
  refine go_iushr dBytes_setNumber_5 ?_
  refine go_virtW dBytes_setNumber_6 ok_mBytes_set im_mBytes_set se_mBytes_set qm_Bytes_25 hB.1 (c_Bytes_set hB) (fun _ => ?_) (hnp := np_mBytes_set)
  refine go_nB hB hB.2.2.1 (fun h1 e1 hB1 => ?_)
  refine go_aload_n dBytes_setNumber_9 rfl ?_
  refine go_iload_n dBytes_setNumber_10 rfl ?_
  refine go_iconst (v := 1) dBytes_setNumber_11 (by decide) ?_
  refine go_iadd dBytes_setNumber_12 ?_
  refine go_iload_n dBytes_setNumber_13 rfl ?_
  refine go_bipush (v := 16) dBytes_setNumber_14 (by decide) ?_
  refine go_iushr dBytes_setNumber_16 ?_
  refine go_sipush (v := 255) dBytes_setNumber_17 (by decide) ?_
  refine go_iand dBytes_setNumber_20 ?_
  refine go_virtW dBytes_setNumber_21 ok_mBytes_set im_mBytes_set se_mBytes_set qm_Bytes_25 hB1.1 (c_Bytes_set hB1) (fun _ => ?_) (hnp := np_mBytes_set)
  refine go_nB hB1 hB1.2.2.1 (fun h2 e2 hB2 => ?_)
  refine go_aload_n dBytes_setNumber_24 rfl ?_
  refine go_iload_n dBytes_setNumber_25 rfl ?_
  refine go_iconst (v := 2) dBytes_setNumber_26 (by decide) ?_
  refine go_iadd dBytes_setNumber_27 ?_
  refine go_iload_n dBytes_setNumber_28 rfl ?_
  refine go_bipush (v := 8) dBytes_setNumber_29 (by decide) ?_
  refine go_iushr dBytes_setNumber_31 ?_
  refine go_sipush (v := 255) dBytes_setNumber_32 (by decide) ?_
  refine go_iand dBytes_setNumber_35 ?_
  refine go_virtW dBytes_setNumber_36 ok_mBytes_set im_mBytes_set se_mBytes_set qm_Bytes_25 hB2.1 (c_Bytes_set hB2) (fun _ => ?_) (hnp := np_mBytes_set)
  refine go_nB hB2 hB2.2.2.1 (fun h3 e3 hB3 => ?_)
  refine go_aload_n dBytes_setNumber_39 rfl ?_
  refine go_iload_n dBytes_setNumber_40 rfl ?_
  refine go_iconst (v := 3) dBytes_setNumber_41 (by decide) ?_
  refine go_iadd dBytes_setNumber_42 ?_
  refine go_iload_n dBytes_setNumber_43 rfl ?_
  refine go_sipush (v := 255) dBytes_setNumber_44 (by decide) ?_
  refine go_iand dBytes_setNumber_47 ?_
  refine go_virtW dBytes_setNumber_48 ok_mBytes_set im_mBytes_set se_mBytes_set qm_Bytes_25 hB3.1 (c_Bytes_set hB3) (fun _ => ?_) (hnp := np_mBytes_set)
  refine go_nB hB3 hB3.2.2.1 (fun h4 e4 hB4 => ?_)
  refine go_vret dBytes_setNumber_51 rfl ?_ (Nat.le_of_ble_eq_true rfl) (Nat.le_of_ble_eq_true rfl)
  exact retW_e rfl (by rw [e4, e3, e2, e1]; simp only [HB_HB hB.ne]; rfl)
set_option maxHeartbeats 4000000 in
theorem l_Bytes_rightSum {E : pmEv} {h : pmH} {z : Option Nat} {b v N : Nat} {f : Nat → Int32} {c : Nat} (hB : IsB h b v N f c) (hT : h (E.2.2.2.2 1) = some (pmT 16 bT)) {a l : Int32} {e : Nat} : ∀ (n i : Nat) (s : Int32), i + n = e → e ≤ 8192 → Go E (mBytes_rightSum, h, 0, 0) 14 [some (.ref b), some (.int a), some (.int l), some (.int (nI e)), some (.int s), some (.int (nI i))] [] (h, z, false) 0 0 (Ret (some (.int (bCrc f c n (nI i) s ^^^ (-1)))) (h, z, false)) := by
  intro n
  induction n with
  | zero =>
    intro i s h1 h2
    refine go_iload dBytes_rightSum_14 rfl ?_
    refine go_iload_n dBytes_rightSum_16 rfl ?_
    refine go_icmp_ge (tgt := 69) dBytes_rightSum_17 (fun c1 => ?_) (fun c1 => absurd (nI_le (by omega) (by omega)) c1)
    refine go_iload dBytes_rightSum_69 rfl ?_
    refine go_iconst (v := -1) dBytes_rightSum_71 (by decide) ?_
    refine go_ixor dBytes_rightSum_72 ?_
    exact go_iret dBytes_rightSum_73 rfl rfl ret_v (Nat.le_of_ble_eq_true rfl) (Nat.le_of_ble_eq_true rfl)
  | succ n ih =>
    intro i s h1 h2
    refine go_iload dBytes_rightSum_14 rfl ?_
    refine go_iload_n dBytes_rightSum_16 rfl ?_
    refine go_icmp_ge (tgt := 69) dBytes_rightSum_17 (fun c1 => absurd c1 (nI_ge (by omega) (by omega))) (fun c1 => ?_)
    refine go_iload dBytes_rightSum_20 rfl ?_
    refine go_aload_n dBytes_rightSum_22 rfl ?_
    refine go_iload dBytes_rightSum_23 rfl ?_
    refine go_virtR dBytes_rightSum_25 ok_mBytes_value im_mBytes_value se_mBytes_value qm_Bytes_21 hB.1 (c_Bytes_value hB) ?_ (hnp := np_mBytes_value)
    refine go_ixor dBytes_rightSum_28 ?_
    refine go_istore dBytes_rightSum_29 ?_
    refine go_iload dBytes_rightSum_31 rfl ?_
    refine go_iconst (v := 4) dBytes_rightSum_33 (by decide) ?_
    refine go_iushr dBytes_rightSum_34 ?_
    refine go_gets1 dBytes_rightSum_35 qs_Bytes_46 ?_
    refine go_iload dBytes_rightSum_38 rfl ?_
    refine go_bipush (v := 15) dBytes_rightSum_40 (by decide) ?_
    refine go_iand dBytes_rightSum_42 ?_
    refine go_ialdT dBytes_rightSum_43 hT (by exact in_15 _) rfl ?_
    refine go_ixor dBytes_rightSum_44 ?_
    refine go_istore dBytes_rightSum_45 ?_
    refine go_iload dBytes_rightSum_47 rfl ?_
    refine go_iconst (v := 4) dBytes_rightSum_49 (by decide) ?_
    refine go_iushr dBytes_rightSum_50 ?_
    refine go_gets1 dBytes_rightSum_51 qs_Bytes_46 ?_
    refine go_iload dBytes_rightSum_54 rfl ?_
    refine go_bipush (v := 15) dBytes_rightSum_56 (by decide) ?_
    refine go_iand dBytes_rightSum_58 ?_
    refine go_ialdT dBytes_rightSum_59 hT (by exact in_15 _) rfl ?_
    refine go_ixor dBytes_rightSum_60 ?_
    refine go_istore dBytes_rightSum_61 ?_
    refine go_iinc dBytes_rightSum_63 rfl (congrArg (_ + ·) lit1) ?_
    refine go_goto (tgt := 14) dBytes_rightSum_66 ?_
    have hn := ih (i + 1) (bT4 (bT4 (s ^^^ bv f c (nI i)))) (by omega) (by omega)
    rw [nI_succ] at hn
    exact hn
set_option maxHeartbeats 4000000 in
theorem c_Bytes_rightSum {E : pmEv} {h : pmH} {z : Option Nat} {b v N : Nat} {f : Nat → Int32} {c : Nat} (hB : IsB h b v N f c) (hT : h (E.2.2.2.2 1) = some (pmT 16 bT)) {p l : Nat} (hpl : p + l ≤ 8000) : Call E mBytes_rightSum [.ref b, .int (nI p), .int (nI l)] h z 0 0 (Ret (some (.int (bCrc f c (l + 4) (nI (p + 4)) (-1) ^^^ (-1)))) (h, z, false)) := by
  refine call_of (L := [some (.ref b), some (.int (nI p)), some (.int (nI l)), none, none, none]) ok_mBytes_rightSum (Nat.le_of_ble_eq_true rfl) ?_
  refine go_iload_n dBytes_rightSum_0 rfl ?_
  refine go_iload_n dBytes_rightSum_1 rfl ?_
  refine go_statR dBytes_rightSum_2 ok_mBytes_sumPlace st_mBytes_sumPlace qm_Bytes_36 c_Bytes_sumPlace ?_ (hnp := np_mBytes_sumPlace)
  refine go_istore_n dBytes_rightSum_5 ?_
  refine go_iconst (v := -1) dBytes_rightSum_6 (by decide) ?_
  refine go_istore dBytes_rightSum_7 ?_
  refine go_iload_n dBytes_rightSum_9 rfl ?_
  refine go_iconst (v := 4) dBytes_rightSum_10 (by decide) ?_
  refine go_iadd dBytes_rightSum_11 ?_
  refine go_istore dBytes_rightSum_12 ?_
  exact go_at (l_Bytes_rightSum hB hT (l + 4) (p + 4) (-1) rfl (by omega)) rfl (by rw [nI_4, nI_8, nI_add, nI_add, nI_add, show p + 8 + l = p + 4 + (l + 4) by omega]; rfl) rfl rfl
