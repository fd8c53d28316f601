/-! ===== the rest of Bytes (by wip/whole/gen_tBytes2.py) ===== -/
/-- the static arrays, below a -/
def SA (E : pmEv) (h : pmH) (a : Nat) : Prop := h (E.2.2.2.2 0) = some (pmT 8 bM) ∧ h (E.2.2.2.2 1) = some (pmT 16 bT) ∧ E.2.2.2.2 0 < a ∧ E.2.2.2.2 1 < a
theorem SA.sm {E : pmEv} {h h' : pmH} {a b n : Nat} (hS : SA E h a) (hs : Sm h h' b n) (hb : a ≤ b) : SA E h' a := ⟨(hs _ (Or.inl (by have := hS.2.2.1; omega))).trans hS.1, (hs _ (Or.inl (by have := hS.2.2.2; omega))).trans hS.2.1, hS.2.2.1, hS.2.2.2⟩
theorem SA.le {E : pmEv} {h : pmH} {a b : Nat} (hS : SA E h a) (hb : a ≤ b) : SA E h b := ⟨hS.1, hS.2.1, by have := hS.2.2.1; omega, by have := hS.2.2.2; omega⟩
theorem BA.le {h : pmH} {b N : Nat} {p : aRow} (hB : BA h b N p) (hN : p.2 ≤ N) : p.2 ≤ 8192 := by have := hB.2.2; omega
abbrev hasM (p : aRow) : Prop := 8 ≤ p.2 ∧ ∀ i, i < 8 → p.1 i = bM i
theorem hM_t {p : aRow} {i : Nat} (h8 : i = 8) (hj : ∀ j, j < i → j < p.2 ∧ p.1 j = bM j) : hasM p := by
  subst h8
  exact ⟨by have := (hj 7 (by omega)).1; omega, fun i hi => (hj i hi).2⟩
theorem hM_f1 {p : aRow} {i : Nat} (hp : p.2 ≤ 8192) (h8 : i < 8) (hi : i ≤ 8192) (c : ¬ (0 ≤ nI i ∧ nI i < nI p.2)) : ¬ hasM p := fun q => c ((has_n hp hi).mpr (by have := q.1; omega))
theorem hM_f2 {p : aRow} {i : Nat} (hp : p.2 ≤ 8192) (h8 : i < 8) (c : 0 ≤ nI i ∧ nI i < nI p.2) (c3 : ¬ bv p.1 p.2 (nI i) = bM i) : ¬ hasM p := fun q => c3 (by rw [bv_n hp (by omega), if_pos ((has_n hp (by omega)).mp c)]; exact q.2 i h8)
theorem hM_s {p : aRow} {i : Nat} (hp : p.2 ≤ 8192) (h8 : i < 8) (hj : ∀ j, j < i → j < p.2 ∧ p.1 j = bM j) (c : 0 ≤ nI i ∧ nI i < nI p.2) (c3 : bv p.1 p.2 (nI i) = bM i) : ∀ j, j < i + 1 → j < p.2 ∧ p.1 j = bM j := fun j hj' => by
  by_cases e : j = i
  · subst e
    have h1 := (has_n hp (by omega)).mp c
    rw [bv_n hp (by omega), if_pos h1] at c3
    exact ⟨h1, c3⟩
  · exact hj j (by omega)
/-- the chunk that byte i is in, if chunks can be told as far as there: where it begins, how many data it has -/
def mendAt (p : aRow) (i : Nat) : Nat → Nat → Option (Nat × Nat)
  | 0, _ => none
  | n + 1, a => if i < a ∨ p.2 < a + 12 ∨ ¬ (0 ≤ bN4 p.1 p.2 (nI a) ∧ bN4 p.1 p.2 (nI a) ≤ 255) ∨ p.2 < a + 12 + (bN4 p.1 p.2 (nI a)).toNatClampNeg then none else if i < a + 12 + (bN4 p.1 p.2 (nI a)).toNatClampNeg then some (a, (bN4 p.1 p.2 (nI a)).toNatClampNeg) else mendAt p i n (a + 12 + (bN4 p.1 p.2 (nI a)).toNatClampNeg)
def mendBy (p : aRow) (q : Option (Nat × Nat)) : aRow := match q with
  | none => p
  | some (a, l) => wS4 p (a + 8 + l) (wSum p (a + 4) (l + 4))
theorem mendAt_no {p : aRow} {i n a : Nat} (h : i < a ∨ p.2 < a + 12 ∨ ¬ (0 ≤ bN4 p.1 p.2 (nI a) ∧ bN4 p.1 p.2 (nI a) ≤ 255) ∨ p.2 < a + 12 + (bN4 p.1 p.2 (nI a)).toNatClampNeg) : mendAt p i n a = none := by
  cases n with
  | zero => rfl
  | succ n => rw [mendAt, if_pos h]
theorem mendAt_yes {p : aRow} {i n a l : Nat} (h1 : a ≤ i) (hl : bN4 p.1 p.2 (nI a) = nI l) (h2 : l ≤ 255) (h3 : a + 12 + l ≤ p.2) (h4 : i < a + 12 + l) : mendAt p i (n + 1) a = some (a, l) := by
  have hc := nI_clamp (n := l) (by omega)
  rw [mendAt, hl, hc, if_neg, if_pos h4]
  intro q
  rcases q with q | q | q | q
  · omega
  · omega
  · exact q ⟨nI_pos' (by omega), nI_le (b := 255) h2 (by omega)⟩
  · omega
theorem mendAt_go {p : aRow} {i n a l : Nat} (h1 : a ≤ i) (hl : bN4 p.1 p.2 (nI a) = nI l) (h2 : l ≤ 255) (h3 : a + 12 + l ≤ p.2) (h4 : ¬ i < a + 12 + l) : mendAt p i (n + 1) a = mendAt p i n (a + 12 + l) := by
  have hc := nI_clamp (n := l) (by omega)
  rw [mendAt, hl, hc, if_neg, if_neg h4]
  intro q
  rcases q with q | q | q | q
  · omega
  · omega
  · exact q ⟨nI_pos' (by omega), nI_le (b := 255) h2 (by omega)⟩
  · omega
theorem len_ex {x : Int32} (h : 0 ≤ x ∧ x ≤ 255) : ∃ l, l ≤ 255 ∧ x = nI l := by
  obtain ⟨j, hj, rfl⟩ := nI_of (x := x) (Int32.not_lt.mpr h.1)
  exact ⟨j, (nI_leI (b := 255) hj (by omega)).mp h.2, rfl⟩
set_option maxHeartbeats 4000000 in
theorem l_Bytes_addBeginning {E : pmEv} {h0 : pmH} {z : Option Nat} {b N : Nat} (hS : SA E h0 b) : ∀ (n : Nat) (i : Nat) (p : aRow) (h : pmH) (d : Bool), i + n = 8 → BA h b N p → Sm h0 h b 2 → Go E (mBytes_addBeginning, h0, 0, 0) 2 [some (.ref b), some (.int (nI i))] [] (h, z, d) 0 0 (RetX none (fun h' => BA h' b N (wAs bM i n p) ∧ Sm h0 h' b 2) z) := by
  intro n
  induction n with
  | zero =>
    intro i p h d hi hB hs
    have hM := (hS.sm hs (Nat.le_refl b)).1
    refine go_iload_n dBytes_addBeginning_2 rfl ?_
    refine go_gets0 dBytes_addBeginning_3 qs_Bytes_33 ?_
    refine go_alenT dBytes_addBeginning_6 hM rfl ?_
    refine go_icmp_ge (tgt := 25) dBytes_addBeginning_7 (fun c1 => ?_) (fun c1 => ?_)
    · refine go_vret dBytes_addBeginning_25 rfl ?_ (Nat.le_of_ble_eq_true rfl) (Nat.le_of_ble_eq_true rfl)
      exact retX ⟨hB, hs⟩
    · exact absurd (nI_le (a := 8) (b := i) (by omega) (by omega)) c1
  | succ n ih =>
    intro i p h d hi hB hs
    have hM := (hS.sm hs (Nat.le_refl b)).1
    refine go_iload_n dBytes_addBeginning_2 rfl ?_
    refine go_gets0 dBytes_addBeginning_3 qs_Bytes_33 ?_
    refine go_alenT dBytes_addBeginning_6 hM rfl ?_
    refine go_icmp_ge (tgt := 25) dBytes_addBeginning_7 (fun c1 => ?_) (fun c1 => ?_)
    · exact absurd c1 (nI_ge (a := i) (b := 8) (by omega) (by omega))
    · refine go_aload_n dBytes_addBeginning_10 rfl ?_
      refine go_gets0 dBytes_addBeginning_11 qs_Bytes_33 ?_
      refine go_iload_n dBytes_addBeginning_14 rfl ?_
      refine go_ialdT dBytes_addBeginning_15 hM (by exact vp_in_nI (by omega) (by omega)) rfl ?_
      refine go_virtX dBytes_addBeginning_16 ok_mBytes_add im_mBytes_add se_mBytes_add qm_Bytes_29 hB.1 (a_Bytes_add hB) (fun h2 d2 q2 => ?_) (hnp := np_mBytes_add)
      refine go_iinc dBytes_addBeginning_19 rfl (congrArg (_ + ·) lit1) ?_
      refine go_goto (tgt := 2) dBytes_addBeginning_22 ?_
      have := ih (i + 1) _ _ d2 (by omega) q2.1 (hs.trans q2.2)
      rw [nI_clamp (n := i) (by omega), nI_succ] at this
      exact this
set_option maxHeartbeats 4000000 in
theorem a_Bytes_addBeginning {E : pmEv} {h : pmH} {z : Option Nat} {b N : Nat} {p : aRow} (hS : SA E h b) (hB : BA h b N p) : Call E mBytes_addBeginning [.ref b] h z 0 0 (RetX none (fun h' => BA h' b N (wAs bM 0 8 p) ∧ Sm h h' b 2) z) := by
  refine call_of (L := [some (.ref b), none]) ok_mBytes_addBeginning (Nat.le_of_ble_eq_true rfl) ?_
  refine go_iconst (v := 0) dBytes_addBeginning_0 (by decide) ?_
  refine go_istore_n dBytes_addBeginning_1 ?_
  exact l_Bytes_addBeginning hS 8 0 p h false (by omega) hB (Sm.refl _ _ _)
set_option maxHeartbeats 4000000 in
theorem l_Bytes_hasBeginning {E : pmEv} {h : pmH} {z : Option Nat} {b N : Nat} {p : aRow} (hS : SA E h b) (hB : BA h b N p) (hN : p.2 ≤ N) : ∀ (n : Nat) (i : Nat), i + n = 8 → (∀ j, j < i → j < p.2 ∧ p.1 j = bM j) → Go E (mBytes_hasBeginning, h, 0, 0) 2 [some (.ref b), some (.int (nI i))] [] (h, z, false) 0 0 (Ret (some (.int (bI (hasM p)))) (h, z, false)) := by
  intro n
  induction n with
  | zero =>
    intro i hi hj
    refine go_iload_n dBytes_hasBeginning_2 rfl ?_
    refine go_gets0 dBytes_hasBeginning_3 qs_Bytes_33 ?_
    refine go_alenT dBytes_hasBeginning_6 hS.1 rfl ?_
    refine go_icmp_ge (tgt := 39) dBytes_hasBeginning_7 (fun c1 => ?_) (fun c1 => ?_)
    · refine go_iconst (v := 1) dBytes_hasBeginning_39 (by decide) ?_
      refine go_iret dBytes_hasBeginning_40 rfl rfl ?_ (Nat.le_of_ble_eq_true rfl) (Nat.le_of_ble_eq_true rfl)
      exact ret_bt (hM_t (by omega) hj)
    · exact absurd (nI_le (a := 8) (b := i) (by omega) (by omega)) c1
  | succ n ih =>
    intro i hi hj
    refine go_iload_n dBytes_hasBeginning_2 rfl ?_
    refine go_gets0 dBytes_hasBeginning_3 qs_Bytes_33 ?_
    refine go_alenT dBytes_hasBeginning_6 hS.1 rfl ?_
    refine go_icmp_ge (tgt := 39) dBytes_hasBeginning_7 (fun c1 => ?_) (fun c1 => ?_)
    · exact absurd c1 (nI_ge (a := i) (b := 8) (by omega) (by omega))
    · refine go_aload_n dBytes_hasBeginning_10 rfl ?_
      refine go_iload_n dBytes_hasBeginning_11 rfl ?_
      refine go_virtP dBytes_hasBeginning_12 ok_mBytes_has im_mBytes_has se_mBytes_has qm_Bytes_17 hB.1 (a_Bytes_has hB hN) ?_ (hnp := np_mBytes_has)
      refine go_ifeq_b (tgt := 31) dBytes_hasBeginning_15 (fun c2 => ?_) (fun c2 => ?_)
      · refine go_iconst (v := 0) dBytes_hasBeginning_31 (by decide) ?_
        refine go_iret dBytes_hasBeginning_32 rfl rfl ?_ (Nat.le_of_ble_eq_true rfl) (Nat.le_of_ble_eq_true rfl)
        exact ret_bf (hM_f1 (hB.le hN) (by omega) (by omega) c2)
      · refine go_aload_n dBytes_hasBeginning_18 rfl ?_
        refine go_iload_n dBytes_hasBeginning_19 rfl ?_
        refine go_virtP dBytes_hasBeginning_20 ok_mBytes_value im_mBytes_value se_mBytes_value qm_Bytes_21 hB.1 (a_Bytes_value hB hN) ?_ (hnp := np_mBytes_value)
        refine go_gets0 dBytes_hasBeginning_23 qs_Bytes_33 ?_
        refine go_iload_n dBytes_hasBeginning_26 rfl ?_
        refine go_ialdT dBytes_hasBeginning_27 hS.1 (by exact vp_in_nI (by omega) (by omega)) rfl ?_
        refine go_icmp_eq (tgt := 33) dBytes_hasBeginning_28 (fun c3 => ?_) (fun c3 => ?_)
        · refine go_iinc dBytes_hasBeginning_33 rfl (congrArg (_ + ·) lit1) ?_
          refine go_goto (tgt := 2) dBytes_hasBeginning_36 ?_
          have := ih (i + 1) (by omega) (hM_s (hB.le hN) (by omega) hj c2 (by rw [nI_clamp (n := i) (by omega)] at c3; exact c3))
          rw [nI_succ] at this
          exact this
        · refine go_iconst (v := 0) dBytes_hasBeginning_31 (by decide) ?_
          refine go_iret dBytes_hasBeginning_32 rfl rfl ?_ (Nat.le_of_ble_eq_true rfl) (Nat.le_of_ble_eq_true rfl)
          exact ret_bf (hM_f2 (hB.le hN) (by omega) c2 (by rw [nI_clamp (n := i) (by omega)] at c3; exact c3))
set_option maxHeartbeats 4000000 in
theorem a_Bytes_hasBeginning {E : pmEv} {h : pmH} {z : Option Nat} {b N : Nat} {p : aRow} (hS : SA E h b) (hB : BA h b N p) (hN : p.2 ≤ N) : Call E mBytes_hasBeginning [.ref b] h z 0 0 (Ret (some (.int (bI (hasM p)))) (h, z, false)) := by
  refine call_of (L := [some (.ref b), none]) ok_mBytes_hasBeginning (Nat.le_of_ble_eq_true rfl) ?_
  refine go_iconst (v := 0) dBytes_hasBeginning_0 (by decide) ?_
  refine go_istore_n dBytes_hasBeginning_1 ?_
  exact l_Bytes_hasBeginning hS hB hN 8 0 (by omega) (fun j hj => absurd hj (by omega))
set_option maxHeartbeats 4000000 in
theorem a_Bytes_sumIsRight {E : pmEv} {h : pmH} {z : Option Nat} {b N : Nat} {p : aRow} (hS : SA E h b) (hB : BA h b N p) (hN : p.2 ≤ N) {a l : Nat} (hal : a + l ≤ 8000) : Call E mBytes_sumIsRight [.ref b, .int (nI a), .int (nI l)] h z 0 0 (Ret (some (.int (bI (bN4 p.1 p.2 (nI (a + 8 + l)) = wSum p (a + 4) (l + 4))))) (h, z, false)) := by
  refine call_of (L := [some (.ref b), some (.int (nI a)), some (.int (nI l))]) ok_mBytes_sumIsRight (Nat.le_of_ble_eq_true rfl) ?_
  refine go_aload_n dBytes_sumIsRight_0 rfl ?_
  refine go_iload_n dBytes_sumIsRight_1 rfl ?_
  refine go_iload_n dBytes_sumIsRight_2 rfl ?_
  refine go_statP dBytes_sumIsRight_3 ok_mBytes_sumPlace st_mBytes_sumPlace qm_Bytes_36 c_Bytes_sumPlace ?_ (hnp := np_mBytes_sumPlace)
  refine go_virtP dBytes_sumIsRight_6 ok_mBytes_number im_mBytes_number se_mBytes_number qm_Bytes_40 hB.1 (a_Bytes_number hB hN) ?_ (hnp := np_mBytes_number)
  refine go_aload_n dBytes_sumIsRight_9 rfl ?_
  refine go_iload_n dBytes_sumIsRight_10 rfl ?_
  refine go_iload_n dBytes_sumIsRight_11 rfl ?_
  refine go_virtP dBytes_sumIsRight_12 ok_mBytes_rightSum im_mBytes_rightSum se_mBytes_rightSum qm_Bytes_43 hB.1 (a_Bytes_rightSum hS.2.1 hal hB hN) ?_ (hnp := np_mBytes_rightSum)
  refine go_icmp_ne (tgt := 22) dBytes_sumIsRight_15 (fun c1 => ?_) (fun c1 => ?_)
  · refine go_iconst (v := 0) dBytes_sumIsRight_22 (by decide) ?_
    refine go_iret dBytes_sumIsRight_23 rfl rfl ?_ (Nat.le_of_ble_eq_true rfl) (Nat.le_of_ble_eq_true rfl)
    exact ret_bf (by rw [nI_a8, nI_add] at c1; exact c1)
  · refine go_iconst (v := 1) dBytes_sumIsRight_18 (by decide) ?_
    refine go_goto (tgt := 23) dBytes_sumIsRight_19 ?_
    refine go_iret dBytes_sumIsRight_23 rfl rfl ?_ (Nat.le_of_ble_eq_true rfl) (Nat.le_of_ble_eq_true rfl)
    exact ret_bt (by rw [nI_a8, nI_add] at c1; exact c1)
set_option maxHeartbeats 4000000 in
theorem l_Bytes_mendSum {E : pmEv} {h : pmH} {z : Option Nat} {b N : Nat} {p : aRow} (hS : SA E h b) (hB : BA h b N p) (hN : p.2 ≤ N) (hp : p.2 ≤ 4000) {i : Nat} (hip : i < p.2) : ∀ (n : Nat) (a : Nat) (x : Int32), i < a + n → a ≤ i + 300 → Go E (mBytes_mendSum, h, 0, 0) 5 [some (.ref b), some (.int (nI i)), some (.int x), some (.int (nI a))] [] (h, z, false) 0 0 (RetX none (fun h' => BA h' b N (mendBy p (mendAt p i n a)) ∧ Sm h h' b 2) z) := by
  intro n
  induction n with
  | zero =>
    intro a x hn ha
    refine go_iload_n dBytes_mendSum_5 rfl ?_
    refine go_iload_n dBytes_mendSum_6 rfl ?_
    refine go_icmp_gt (tgt := 79) dBytes_mendSum_7 (fun c1 => ?_) (fun c1 => ?_)
    · refine go_vret dBytes_mendSum_79 rfl ?_ (Nat.le_of_ble_eq_true rfl) (Nat.le_of_ble_eq_true rfl)
      exact retX ⟨by rw [mendAt_no (Or.inl ((nI_ltI (by omega) (by omega)).mp c1))]; exact hB, Sm.refl _ _ _⟩
    · exact absurd ((nI_ltI (a := i) (b := a) (by omega) (by omega)).mpr (by omega)) c1
  | succ n ih =>
    intro a x hn ha
    refine go_iload_n dBytes_mendSum_5 rfl ?_
    refine go_iload_n dBytes_mendSum_6 rfl ?_
    refine go_icmp_gt (tgt := 79) dBytes_mendSum_7 (fun c1 => ?_) (fun c1 => ?_)
    · refine go_vret dBytes_mendSum_79 rfl ?_ (Nat.le_of_ble_eq_true rfl) (Nat.le_of_ble_eq_true rfl)
      exact retX ⟨by rw [mendAt_no (Or.inl ((nI_ltI (by omega) (by omega)).mp c1))]; exact hB, Sm.refl _ _ _⟩
    · refine go_aload_n dBytes_mendSum_10 rfl ?_
      refine go_iload_n dBytes_mendSum_11 rfl ?_
      refine go_iconst (v := 0) dBytes_mendSum_12 (by decide) ?_
      refine go_virtP dBytes_mendSum_13 ok_mBytes_hasWholeChunk im_mBytes_hasWholeChunk se_mBytes_hasWholeChunk qm_Bytes_49 hB.1 (a_Bytes_hasWholeChunk hB hN) ?_ (hnp := np_mBytes_hasWholeChunk)
      refine go_ifne_b (tgt := 20) dBytes_mendSum_16 (fun c2 => ?_) (fun c2 => ?_)
      · refine go_aload_n dBytes_mendSum_20 rfl ?_
        refine go_iload_n dBytes_mendSum_21 rfl ?_
        refine go_virtP dBytes_mendSum_22 ok_mBytes_number im_mBytes_number se_mBytes_number qm_Bytes_40 hB.1 (a_Bytes_number hB hN) ?_ (hnp := np_mBytes_number)
        refine go_istore_n dBytes_mendSum_25 ?_
        refine go_iload_n dBytes_mendSum_26 rfl ?_
        refine go_statP dBytes_mendSum_27 ok_mBytes_dataLengthMayBe st_mBytes_dataLengthMayBe qm_Bytes_53 c_Bytes_dataLengthMayBe ?_ (hnp := np_mBytes_dataLengthMayBe)
        refine go_ifeq_b (tgt := 42) dBytes_mendSum_30 (fun c3 => ?_) (fun c3 => ?_)
        · refine go_vret dBytes_mendSum_42 rfl ?_ (Nat.le_of_ble_eq_true rfl) (Nat.le_of_ble_eq_true rfl)
          exact retX ⟨by rw [mendAt_no (Or.inr (Or.inr (Or.inl c3)))]; exact hB, Sm.refl _ _ _⟩
        · obtain ⟨l, hl, e⟩ := len_ex c3
          rw [e]
          refine go_aload_n dBytes_mendSum_33 rfl ?_
          refine go_iload_n dBytes_mendSum_34 rfl ?_
          refine go_iload_n dBytes_mendSum_35 rfl ?_
          refine go_virtP dBytes_mendSum_36 ok_mBytes_hasWholeChunk im_mBytes_hasWholeChunk se_mBytes_hasWholeChunk qm_Bytes_49 hB.1 (a_Bytes_hasWholeChunk hB hN) ?_ (hnp := np_mBytes_hasWholeChunk)
          refine go_ifne_b (tgt := 43) dBytes_mendSum_39 (fun c4 => ?_) (fun c4 => ?_)
          · have g1 : a ≤ i := Nat.not_lt.mp fun q => c1 ((nI_ltI (by omega) (by omega)).mpr q)
            have g4 : a + 12 + l ≤ p.2 := (chunk_n (by omega) (by omega) (by omega)).mp c4
            have hal : a + l ≤ 8000 := by omega
            refine go_iload_n dBytes_mendSum_43 rfl ?_
            refine go_iload_n dBytes_mendSum_44 rfl ?_
            refine go_bipush (v := 12) dBytes_mendSum_45 (by decide) ?_
            refine go_iadd dBytes_mendSum_47 ?_
            refine go_iload_n dBytes_mendSum_48 rfl ?_
            refine go_iadd dBytes_mendSum_49 ?_
            rw [show (12 : Int32) = nI 12 from rfl, nI_add, nI_add]
            refine go_icmp_ge (tgt := 69) dBytes_mendSum_50 (fun c5 => ?_) (fun c5 => ?_)
            · refine go_iload_n dBytes_mendSum_69 rfl ?_
              refine go_bipush (v := 12) dBytes_mendSum_70 (by decide) ?_
              refine go_iload_n dBytes_mendSum_72 rfl ?_
              refine go_iadd dBytes_mendSum_73 ?_
              refine go_iadd dBytes_mendSum_74 ?_
              refine go_istore_n dBytes_mendSum_75 ?_
              refine go_goto (tgt := 5) dBytes_mendSum_76 ?_
              rw [mendAt_go g1 e hl g4 (fun q => absurd (nI_ge q (by omega)) (fun w => w c5))]
              have := ih (a + 12 + l) (nI l) (by omega) (by omega)
              rw [show (12 : Int32) = nI 12 from rfl, nI_add, nI_add, ← Nat.add_assoc]
              exact this
            · refine go_aload_n dBytes_mendSum_53 rfl ?_
              refine go_iload_n dBytes_mendSum_54 rfl ?_
              refine go_iload_n dBytes_mendSum_55 rfl ?_
              refine go_statP dBytes_mendSum_56 ok_mBytes_sumPlace st_mBytes_sumPlace qm_Bytes_36 c_Bytes_sumPlace ?_ (hnp := np_mBytes_sumPlace)
              refine go_aload_n dBytes_mendSum_59 rfl ?_
              refine go_iload_n dBytes_mendSum_60 rfl ?_
              refine go_iload_n dBytes_mendSum_61 rfl ?_
              refine go_virtP dBytes_mendSum_62 ok_mBytes_rightSum im_mBytes_rightSum se_mBytes_rightSum qm_Bytes_43 hB.1 (a_Bytes_rightSum hS.2.1 hal hB hN) ?_ (hnp := np_mBytes_rightSum)
              rw [nI_a8, nI_add]
              refine go_virtX dBytes_mendSum_65 ok_mBytes_setNumber im_mBytes_setNumber se_mBytes_setNumber qm_Bytes_56 hB.1 (a_Bytes_setNumber (j := a + 8 + l) hB hN (by omega)) (fun h6 d6 q6 => ?_) (hnp := np_mBytes_setNumber)
              refine go_vret dBytes_mendSum_68 rfl ?_ (Nat.le_of_ble_eq_true rfl) (Nat.le_of_ble_eq_true rfl)
              exact retX ⟨by rw [mendAt_yes g1 e hl g4 ((nI_ltI (by omega) (by omega)).mp (Int32.not_le.mp c5))]; exact q6.1, q6.2⟩
          · refine go_vret dBytes_mendSum_42 rfl ?_ (Nat.le_of_ble_eq_true rfl) (Nat.le_of_ble_eq_true rfl)
            exact retX ⟨by rw [mendAt_no (Or.inr (Or.inr (Or.inr (by rw [e, nI_clamp (by omega)]; exact Nat.not_le.mp fun q => c4 ((chunk_n (by omega) (by omega) (by omega)).mpr q)))))]; exact hB, Sm.refl _ _ _⟩
      · refine go_vret dBytes_mendSum_19 rfl ?_ (Nat.le_of_ble_eq_true rfl) (Nat.le_of_ble_eq_true rfl)
        exact retX ⟨by rw [mendAt_no (Or.inr (Or.inl (Nat.not_le.mp fun q => c2 ((chunk_n (l := 0) (by omega) (by omega) (by omega)).mpr q))))]; exact hB, Sm.refl _ _ _⟩
set_option maxHeartbeats 4000000 in
theorem a_Bytes_mendSum {E : pmEv} {h : pmH} {z : Option Nat} {b N : Nat} {p : aRow} (hS : SA E h b) (hB : BA h b N p) (hN : p.2 ≤ N) (hp : p.2 ≤ 4000) {i : Nat} (hip : i < p.2) : Call E mBytes_mendSum [.ref b, .int (nI i)] h z 0 0 (RetX none (fun h' => BA h' b N (mendBy p (mendAt p i 4001 8)) ∧ Sm h h' b 2) z) := by
  refine call_of (L := [some (.ref b), some (.int (nI i)), none, none]) ok_mBytes_mendSum (Nat.le_of_ble_eq_true rfl) ?_
  refine go_iconst (v := 0) dBytes_mendSum_0 (by decide) ?_
  refine go_istore_n dBytes_mendSum_1 ?_
  refine go_bipush (v := 8) dBytes_mendSum_2 (by decide) ?_
  refine go_istore_n dBytes_mendSum_4 ?_
  exact l_Bytes_mendSum hS hB hN hp hip 4001 8 0 (by omega) (by omega)
