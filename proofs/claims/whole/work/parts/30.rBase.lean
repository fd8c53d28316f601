/-! ===== the reference: its static methods (by wip/whole/gen_rBase.py) ===== -/
theorem shr_and {x s : Int32} (k : Nat) (hk : k = 0 ∨ k = 8 ∨ k = 16 ∨ k = 24) (h1 : (s.toBitVec.smod 32).toNat = k) (h2 : ((s.toUInt32 &&& Int32.toUInt32 31).toBitVec % 32).toNat = k) : (x >>> s) &&& 255 = u4 x s &&& 255 := by
  rw [pk_and (x >>> s) (m := 255) 8 (by decide), pk_and (u4 x s) (m := 255) 8 (by decide)]
  have e2 : (u4 x s).toBitVec.toNat = x.toBitVec.toNat / 2 ^ k := pk_ushr x s k h2
  have e1 : (x >>> s).toBitVec.toInt = x.toBitVec.toInt >>> k := pk_shr x s k h1
  rw [e2]
  congr 1
  rw [Int.shiftRight_eq_div_pow, BitVec.toInt_eq_toNat_cond, BitVec.toInt_eq_toNat_cond] at e1
  have b1 := x.toBitVec.isLt
  have b2 := (x >>> s).toBitVec.isLt
  generalize x.toBitVec.toNat = X at *
  generalize (x >>> s).toBitVec.toNat = Y at *
  rcases hk with rfl | rfl | rfl | rfl
  · split at e1 <;> split at e1 <;> omega
  · split at e1 <;> split at e1 <;> omega
  · split at e1 <;> split at e1 <;> omega
  · split at e1 <;> split at e1 <;> omega
theorem ltr_sh {x : Int32} {k : Nat} (hk : k < 4) : (x >>> ((24 - 8 * nI k) &&& 31)) &&& 255 = ltr x (nI k) := by
  have : k = 0 ∨ k = 1 ∨ k = 2 ∨ k = 3 := by omega
  unfold ltr
  rcases this with rfl | rfl | rfl | rfl
  · exact shr_and (s := 24) 24 (by omega) (by decide) (by decide)
  · exact shr_and (s := 16) 16 (by omega) (by decide) (by decide)
  · exact shr_and (s := 8) 8 (by omega) (by decide) (by decide)
  · exact shr_and (s := 0) 0 (by omega) (by decide) (by decide)
theorem allS {x : Int32} {k : Nat} (h : ∀ j, j < k → isLet (ltr x (nI j))) (hk : isLet (ltr x (nI k))) : ∀ j, j < k + 1 → isLet (ltr x (nI j)) := fun j hj => by
  by_cases e : j = k
  · subst e; exact hk
  · exact h j (by omega)
theorem lets_4 {x : Int32} (h : ∀ j, j < 4 → isLet (ltr x (nI j))) (h2 : 65 ≤ ltr x 2 ∧ ltr x 2 ≤ 90) : letsOk x := ⟨h 0 (by omega), h 1 (by omega), h2, h 3 (by omega)⟩
theorem lets_4i {x : Int32} (h : letsOk x) : ∀ j, j < 4 → isLet (ltr x (nI j)) := fun j hj => by
  have : j = 0 ∨ j = 1 ∨ j = 2 ∨ j = 3 := by omega
  rcases this with rfl | rfl | rfl | rfl
  · exact h.1
  · exact h.2.1
  · exact Or.inl h.2.2.1
  · exact h.2.2.2
theorem not_gr {x : Int32} (h : 97 ≤ x ∧ x ≤ 122) : ¬ (65 ≤ x ∧ x ≤ 90) := fun q => absurd (Int32.le_trans h.1 q.2) (by decide)
theorem sm_of {x : Int32} (h : exOk x) : 97 ≤ ltr x 0 ∧ ltr x 0 ≤ 122 := h.1.1.resolve_left h.2.1
theorem i64_t {v : Int32} : v.toInt64.toInt = v.toInt := by simp
theorem lc_lt {x y : Int64} : lg_cmp x y < 0 ↔ x < y := by
  unfold lg_cmp
  by_cases h1 : x > y
  · rw [if_pos h1]
    exact ⟨fun q => absurd q (by decide), fun q => absurd (Int64.lt_trans q h1) (Int64.lt_irrefl)⟩
  · rw [if_neg h1]
    by_cases h2 : x = y
    · rw [if_pos h2]
      exact ⟨fun q => absurd q (by decide), fun q => absurd (h2 ▸ q) (Int64.lt_irrefl)⟩
    · rw [if_neg h2]
      exact ⟨fun _ => Int64.lt_of_le_of_ne (Int64.not_lt.mp h1) h2, fun _ => by decide⟩
theorem lc_gt {x y : Int64} : 0 < lg_cmp x y ↔ y < x := by
  unfold lg_cmp
  split
  · simp_all
  · split <;> simp_all
theorem lc_0 {v : Int32} : lg_cmp v.toInt64 0 < 0 ↔ v < 0 := by
  have e : v.toInt64 < 0 ↔ v < 0 := by rw [Int64.lt_iff_toInt_lt, Int32.lt_iff_toInt_lt, i64_t]; exact Iff.rfl
  rw [← e]
  exact lc_lt
theorem lc_1 {v : Int32} : lg_cmp v.toInt64 1 < 0 ↔ v < 1 := by
  have e : v.toInt64 < 1 ↔ v < 1 := by rw [Int64.lt_iff_toInt_lt, Int32.lt_iff_toInt_lt, i64_t]; exact Iff.rfl
  rw [← e]
  exact lc_lt
theorem lc_3 {v : Int32} : 0 < lg_cmp v.toInt64 3 ↔ 3 < v := by
  have e : (3 : Int64) < v.toInt64 ↔ 3 < v := by rw [Int64.lt_iff_toInt_lt, Int32.lt_iff_toInt_lt, i64_t]; exact Iff.rfl
  rw [← e]
  exact lc_gt
theorem lc_M {v : Int32} : 0 < lg_cmp v.toInt64 2147483647 ↔ False := by
  rw [lc_gt, Int64.lt_iff_toInt_lt, i64_t]
  have := Int32.toInt_lt v
  have e : (2147483647 : Int64).toInt = 2147483647 := by decide
  rw [e]
  constructor
  · intro q; omega
  · exact False.elim
def tgN (x : Int32) : Int32 := if x = 1732332865 then 0 else if x = 1934772034 then 1 else if x = 1883789683 then 2 else -1
set_option maxHeartbeats 4000000 in
theorem r_isByte {E : pmEv} {h : pmH} {z : Option Nat} {x : Int32} : Call E mRef_isByte [.int x] h z 0 0 (Ret (some (.int (bI (byt x)))) (h, z, false)) := by
  refine call_of (L := [some (.int x)]) ok_mRef_isByte (Nat.le_of_ble_eq_true rfl) ?_
  refine go_iload_n dRef_isByte_0 rfl ?_
  refine go_if_lt (tgt := 15) dRef_isByte_1 (fun c1 => ?_) (fun c1 => ?_)
  · refine go_iconst (v := 0) dRef_isByte_15 (by decide) ?_
    refine go_iret dRef_isByte_16 rfl rfl ?_ (Nat.le_of_ble_eq_true rfl) (Nat.le_of_ble_eq_true rfl)
    refine ret_bf ?_
    grind
  · refine go_iload_n dRef_isByte_4 rfl ?_
    refine go_sipush (v := 255) dRef_isByte_5 (by decide) ?_
    refine go_icmp_gt (tgt := 15) dRef_isByte_8 (fun c2 => ?_) (fun c2 => ?_)
    · refine go_iconst (v := 0) dRef_isByte_15 (by decide) ?_
      refine go_iret dRef_isByte_16 rfl rfl ?_ (Nat.le_of_ble_eq_true rfl) (Nat.le_of_ble_eq_true rfl)
      refine ret_bf ?_
      grind
    · refine go_iconst (v := 1) dRef_isByte_11 (by decide) ?_
      refine go_goto (tgt := 16) dRef_isByte_12 ?_
      refine go_iret dRef_isByte_16 rfl rfl ?_ (Nat.le_of_ble_eq_true rfl) (Nat.le_of_ble_eq_true rfl)
      refine ret_bt ?_
      grind
set_option maxHeartbeats 4000000 in
theorem r_isGreat {E : pmEv} {h : pmH} {z : Option Nat} {x : Int32} : Call E mRef_isGreat [.int x] h z 0 0 (Ret (some (.int (bI (65 ≤ x ∧ x ≤ 90)))) (h, z, false)) := by
  refine call_of (L := [some (.int x)]) ok_mRef_isGreat (Nat.le_of_ble_eq_true rfl) ?_
  refine go_iload_n dRef_isGreat_0 rfl ?_
  refine go_bipush (v := 65) dRef_isGreat_1 (by decide) ?_
  refine go_icmp_lt (tgt := 16) dRef_isGreat_3 (fun c1 => ?_) (fun c1 => ?_)
  · refine go_iconst (v := 0) dRef_isGreat_16 (by decide) ?_
    refine go_iret dRef_isGreat_17 rfl rfl ?_ (Nat.le_of_ble_eq_true rfl) (Nat.le_of_ble_eq_true rfl)
    refine ret_bf ?_
    grind
  · refine go_iload_n dRef_isGreat_6 rfl ?_
    refine go_bipush (v := 90) dRef_isGreat_7 (by decide) ?_
    refine go_icmp_gt (tgt := 16) dRef_isGreat_9 (fun c2 => ?_) (fun c2 => ?_)
    · refine go_iconst (v := 0) dRef_isGreat_16 (by decide) ?_
      refine go_iret dRef_isGreat_17 rfl rfl ?_ (Nat.le_of_ble_eq_true rfl) (Nat.le_of_ble_eq_true rfl)
      refine ret_bf ?_
      grind
    · refine go_iconst (v := 1) dRef_isGreat_12 (by decide) ?_
      refine go_goto (tgt := 17) dRef_isGreat_13 ?_
      refine go_iret dRef_isGreat_17 rfl rfl ?_ (Nat.le_of_ble_eq_true rfl) (Nat.le_of_ble_eq_true rfl)
      refine ret_bt ?_
      grind
set_option maxHeartbeats 4000000 in
theorem r_isSmall {E : pmEv} {h : pmH} {z : Option Nat} {x : Int32} : Call E mRef_isSmall [.int x] h z 0 0 (Ret (some (.int (bI (97 ≤ x ∧ x ≤ 122)))) (h, z, false)) := by
  refine call_of (L := [some (.int x)]) ok_mRef_isSmall (Nat.le_of_ble_eq_true rfl) ?_
  refine go_iload_n dRef_isSmall_0 rfl ?_
  refine go_bipush (v := 97) dRef_isSmall_1 (by decide) ?_
  refine go_icmp_lt (tgt := 16) dRef_isSmall_3 (fun c1 => ?_) (fun c1 => ?_)
  · refine go_iconst (v := 0) dRef_isSmall_16 (by decide) ?_
    refine go_iret dRef_isSmall_17 rfl rfl ?_ (Nat.le_of_ble_eq_true rfl) (Nat.le_of_ble_eq_true rfl)
    refine ret_bf ?_
    grind
  · refine go_iload_n dRef_isSmall_6 rfl ?_
    refine go_bipush (v := 122) dRef_isSmall_7 (by decide) ?_
    refine go_icmp_gt (tgt := 16) dRef_isSmall_9 (fun c2 => ?_) (fun c2 => ?_)
    · refine go_iconst (v := 0) dRef_isSmall_16 (by decide) ?_
      refine go_iret dRef_isSmall_17 rfl rfl ?_ (Nat.le_of_ble_eq_true rfl) (Nat.le_of_ble_eq_true rfl)
      refine ret_bf ?_
      grind
    · refine go_iconst (v := 1) dRef_isSmall_12 (by decide) ?_
      refine go_goto (tgt := 17) dRef_isSmall_13 ?_
      refine go_iret dRef_isSmall_17 rfl rfl ?_ (Nat.le_of_ble_eq_true rfl) (Nat.le_of_ble_eq_true rfl)
      refine ret_bt ?_
      grind
set_option maxHeartbeats 4000000 in
theorem r_channelsOf {E : pmEv} {h : pmH} {z : Option Nat} {x : Int32} : Call E mRef_channelsOf [.int x] h z 0 0 (Ret (some (.int (chOf x))) (h, z, false)) := by
  refine call_of (L := [some (.int x)]) ok_mRef_channelsOf (Nat.le_of_ble_eq_true rfl) ?_
  refine go_iload_n dRef_channelsOf_0 rfl ?_
  refine go_iconst (v := 2) dRef_channelsOf_1 (by decide) ?_
  refine go_icmp_ne (tgt := 9) dRef_channelsOf_2 (fun c1 => ?_) (fun c1 => ?_)
  · refine go_iload_n dRef_channelsOf_9 rfl ?_
    refine go_iconst (v := 4) dRef_channelsOf_10 (by decide) ?_
    refine go_icmp_ne (tgt := 18) dRef_channelsOf_11 (fun c2 => ?_) (fun c2 => ?_)
    · refine go_iload_n dRef_channelsOf_18 rfl ?_
      refine go_bipush (v := 6) dRef_channelsOf_19 (by decide) ?_
      refine go_icmp_ne (tgt := 28) dRef_channelsOf_21 (fun c3 => ?_) (fun c3 => ?_)
      · refine go_iconst (v := 1) dRef_channelsOf_28 (by decide) ?_
        refine go_iret dRef_channelsOf_29 rfl rfl ?_ (Nat.le_of_ble_eq_true rfl) (Nat.le_of_ble_eq_true rfl)
        exact ret_e (by unfold chOf; simp [c1, c2, c3])
      · refine go_iconst (v := 4) dRef_channelsOf_24 (by decide) ?_
        refine go_goto (tgt := 29) dRef_channelsOf_25 ?_
        refine go_iret dRef_channelsOf_29 rfl rfl ?_ (Nat.le_of_ble_eq_true rfl) (Nat.le_of_ble_eq_true rfl)
        exact ret_e (by unfold chOf; simp [c1, c2, c3])
    · refine go_iconst (v := 2) dRef_channelsOf_14 (by decide) ?_
      refine go_goto (tgt := 29) dRef_channelsOf_15 ?_
      refine go_iret dRef_channelsOf_29 rfl rfl ?_ (Nat.le_of_ble_eq_true rfl) (Nat.le_of_ble_eq_true rfl)
      exact ret_e (by unfold chOf; simp [c1, c2])
  · refine go_iconst (v := 3) dRef_channelsOf_5 (by decide) ?_
    refine go_goto (tgt := 29) dRef_channelsOf_6 ?_
    refine go_iret dRef_channelsOf_29 rfl rfl ?_ (Nat.le_of_ble_eq_true rfl) (Nat.le_of_ble_eq_true rfl)
    exact ret_e (by unfold chOf; simp [c1])
set_option maxHeartbeats 4000000 in
theorem r_greatest {E : pmEv} {h : pmH} {z : Option Nat} {x : Int32} : Call E mRef_greatest [.int x] h z 0 0 (Ret (some (.int (gr x))) (h, z, false)) := by
  refine call_of (L := [some (.int x)]) ok_mRef_greatest (Nat.le_of_ble_eq_true rfl) ?_
  refine go_iconst (v := 1) dRef_greatest_0 (by decide) ?_
  refine go_iload_n dRef_greatest_1 rfl ?_
  refine go_ishl dRef_greatest_2 ?_
  refine go_iconst (v := 1) dRef_greatest_3 (by decide) ?_
  refine go_isub dRef_greatest_4 ?_
  refine go_iret dRef_greatest_5 rfl rfl ?_ (Nat.le_of_ble_eq_true rfl) (Nat.le_of_ble_eq_true rfl)
  exact ret_v
set_option maxHeartbeats 4000000 in
theorem r_mostEntries {E : pmEv} {h : pmH} {z : Option Nat} {b : Nat} (hb : b = 1 ∨ b = 2 ∨ b = 4 ∨ b = 8) : Call E mRef_mostEntries [.int (nI b)] h z 0 0 (Ret (some (.int (nI (min 64 (2 ^ b))))) (h, z, false)) := by
  refine call_of (L := [some (.int (nI b))]) ok_mRef_mostEntries (Nat.le_of_ble_eq_true rfl) ?_
  refine go_iload_n dRef_mostEntries_0 rfl ?_
  refine go_bipush (v := 8) dRef_mostEntries_1 (by decide) ?_
  refine go_icmp_ne (tgt := 11) dRef_mostEntries_3 (fun c1 => ?_) (fun c1 => ?_)
  · refine go_iconst (v := 1) dRef_mostEntries_11 (by decide) ?_
    refine go_iload_n dRef_mostEntries_12 rfl ?_
    refine go_ishl dRef_mostEntries_13 ?_
    refine go_iret dRef_mostEntries_14 rfl rfl ?_ (Nat.le_of_ble_eq_true rfl) (Nat.le_of_ble_eq_true rfl)
    exact ret_e (by rcases hb with rfl | rfl | rfl | rfl <;> first | rfl | exact absurd rfl c1)
  · refine go_bipush (v := 64) dRef_mostEntries_6 (by decide) ?_
    refine go_goto (tgt := 14) dRef_mostEntries_8 ?_
    refine go_iret dRef_mostEntries_14 rfl rfl ?_ (Nat.le_of_ble_eq_true rfl) (Nat.le_of_ble_eq_true rfl)
    exact ret_e (by rcases hb with rfl | rfl | rfl | rfl <;> first | exact absurd c1 (by decide) | rfl)
set_option maxHeartbeats 4000000 in
theorem l_Ref_isGood2 {E : pmEv} {h0 h : pmH} {z : Option Nat} {d : Bool} {x y u v : Int32} : Go E (mRef_isGood, h0, 0, 0) 39 [some (.int x), some (.int y), some (.int u), some (.int v), some (.int (bI (v = 0 ∨ v = 3))), some (.int (bI (v = 2 ∨ v = 4 ∨ v = 6)))] [] (h, z, false) 0 0 (Ret (some (.int (bI (okHead x y u v)))) (h, z, false)) := by
  refine go_iload_n dRef_isGood_39 rfl ?_
  refine go_iconst (v := 1) dRef_isGood_40 (by decide) ?_
  refine go_icmp_lt (tgt := 102) dRef_isGood_41 (fun c1 => ?_) (fun c1 => ?_)
  · refine go_iconst (v := 0) dRef_isGood_102 (by decide) ?_
    refine go_iret dRef_isGood_103 rfl rfl ?_ (Nat.le_of_ble_eq_true rfl) (Nat.le_of_ble_eq_true rfl)
    refine ret_bf ?_
    unfold okHead bitsOk
    grind
  · refine go_iload_n dRef_isGood_44 rfl ?_
    refine go_bipush (v := 12) dRef_isGood_45 (by decide) ?_
    refine go_icmp_gt (tgt := 102) dRef_isGood_47 (fun c2 => ?_) (fun c2 => ?_)
    · refine go_iconst (v := 0) dRef_isGood_102 (by decide) ?_
      refine go_iret dRef_isGood_103 rfl rfl ?_ (Nat.le_of_ble_eq_true rfl) (Nat.le_of_ble_eq_true rfl)
      refine ret_bf ?_
      unfold okHead bitsOk
      grind
    · refine go_iload_n dRef_isGood_50 rfl ?_
      refine go_iconst (v := 1) dRef_isGood_51 (by decide) ?_
      refine go_icmp_lt (tgt := 102) dRef_isGood_52 (fun c3 => ?_) (fun c3 => ?_)
      · refine go_iconst (v := 0) dRef_isGood_102 (by decide) ?_
        refine go_iret dRef_isGood_103 rfl rfl ?_ (Nat.le_of_ble_eq_true rfl) (Nat.le_of_ble_eq_true rfl)
        refine ret_bf ?_
        unfold okHead bitsOk
        grind
      · refine go_iload_n dRef_isGood_55 rfl ?_
        refine go_bipush (v := 12) dRef_isGood_56 (by decide) ?_
        refine go_icmp_gt (tgt := 102) dRef_isGood_58 (fun c4 => ?_) (fun c4 => ?_)
        · refine go_iconst (v := 0) dRef_isGood_102 (by decide) ?_
          refine go_iret dRef_isGood_103 rfl rfl ?_ (Nat.le_of_ble_eq_true rfl) (Nat.le_of_ble_eq_true rfl)
          refine ret_bf ?_
          unfold okHead bitsOk
          grind
        · refine go_iload dRef_isGood_61 rfl ?_
          refine go_ifeq_b (tgt := 72) dRef_isGood_63 (fun c5 => ?_) (fun c5 => ?_)
          · refine go_iload dRef_isGood_72 rfl ?_
            refine go_ifeq_b (tgt := 102) dRef_isGood_74 (fun c6 => ?_) (fun c6 => ?_)
            · refine go_iconst (v := 0) dRef_isGood_102 (by decide) ?_
              refine go_iret dRef_isGood_103 rfl rfl ?_ (Nat.le_of_ble_eq_true rfl) (Nat.le_of_ble_eq_true rfl)
              refine ret_bf ?_
              unfold okHead bitsOk
              grind
            · refine go_iload_n dRef_isGood_77 rfl ?_
              refine go_iconst (v := 1) dRef_isGood_78 (by decide) ?_
              refine go_icmp_eq (tgt := 98) dRef_isGood_79 (fun c7 => ?_) (fun c7 => ?_)
              · refine go_iconst (v := 1) dRef_isGood_98 (by decide) ?_
                refine go_goto (tgt := 103) dRef_isGood_99 ?_
                refine go_iret dRef_isGood_103 rfl rfl ?_ (Nat.le_of_ble_eq_true rfl) (Nat.le_of_ble_eq_true rfl)
                refine ret_bt ?_
                unfold okHead bitsOk
                grind
              · refine go_iload_n dRef_isGood_82 rfl ?_
                refine go_iconst (v := 2) dRef_isGood_83 (by decide) ?_
                refine go_icmp_eq (tgt := 98) dRef_isGood_84 (fun c8 => ?_) (fun c8 => ?_)
                · refine go_iconst (v := 1) dRef_isGood_98 (by decide) ?_
                  refine go_goto (tgt := 103) dRef_isGood_99 ?_
                  refine go_iret dRef_isGood_103 rfl rfl ?_ (Nat.le_of_ble_eq_true rfl) (Nat.le_of_ble_eq_true rfl)
                  refine ret_bt ?_
                  unfold okHead bitsOk
                  grind
                · refine go_iload_n dRef_isGood_87 rfl ?_
                  refine go_iconst (v := 4) dRef_isGood_88 (by decide) ?_
                  refine go_icmp_eq (tgt := 98) dRef_isGood_89 (fun c9 => ?_) (fun c9 => ?_)
                  · refine go_iconst (v := 1) dRef_isGood_98 (by decide) ?_
                    refine go_goto (tgt := 103) dRef_isGood_99 ?_
                    refine go_iret dRef_isGood_103 rfl rfl ?_ (Nat.le_of_ble_eq_true rfl) (Nat.le_of_ble_eq_true rfl)
                    refine ret_bt ?_
                    unfold okHead bitsOk
                    grind
                  · refine go_iload_n dRef_isGood_92 rfl ?_
                    refine go_bipush (v := 8) dRef_isGood_93 (by decide) ?_
                    refine go_icmp_ne (tgt := 102) dRef_isGood_95 (fun c10 => ?_) (fun c10 => ?_)
                    · refine go_iconst (v := 0) dRef_isGood_102 (by decide) ?_
                      refine go_iret dRef_isGood_103 rfl rfl ?_ (Nat.le_of_ble_eq_true rfl) (Nat.le_of_ble_eq_true rfl)
                      refine ret_bf ?_
                      unfold okHead bitsOk
                      grind
                    · refine go_iconst (v := 1) dRef_isGood_98 (by decide) ?_
                      refine go_goto (tgt := 103) dRef_isGood_99 ?_
                      refine go_iret dRef_isGood_103 rfl rfl ?_ (Nat.le_of_ble_eq_true rfl) (Nat.le_of_ble_eq_true rfl)
                      refine ret_bt ?_
                      unfold okHead bitsOk
                      grind
          · refine go_iload_n dRef_isGood_66 rfl ?_
            refine go_bipush (v := 8) dRef_isGood_67 (by decide) ?_
            refine go_icmp_eq (tgt := 98) dRef_isGood_69 (fun c6 => ?_) (fun c6 => ?_)
            · refine go_iconst (v := 1) dRef_isGood_98 (by decide) ?_
              refine go_goto (tgt := 103) dRef_isGood_99 ?_
              refine go_iret dRef_isGood_103 rfl rfl ?_ (Nat.le_of_ble_eq_true rfl) (Nat.le_of_ble_eq_true rfl)
              refine ret_bt ?_
              unfold okHead bitsOk
              grind
            · refine go_iload dRef_isGood_72 rfl ?_
              refine go_ifeq_b (tgt := 102) dRef_isGood_74 (fun c7 => ?_) (fun c7 => ?_)
              · refine go_iconst (v := 0) dRef_isGood_102 (by decide) ?_
                refine go_iret dRef_isGood_103 rfl rfl ?_ (Nat.le_of_ble_eq_true rfl) (Nat.le_of_ble_eq_true rfl)
                refine ret_bf ?_
                unfold okHead bitsOk
                grind
              · refine go_iload_n dRef_isGood_77 rfl ?_
                refine go_iconst (v := 1) dRef_isGood_78 (by decide) ?_
                refine go_icmp_eq (tgt := 98) dRef_isGood_79 (fun c8 => ?_) (fun c8 => ?_)
                · refine go_iconst (v := 1) dRef_isGood_98 (by decide) ?_
                  refine go_goto (tgt := 103) dRef_isGood_99 ?_
                  refine go_iret dRef_isGood_103 rfl rfl ?_ (Nat.le_of_ble_eq_true rfl) (Nat.le_of_ble_eq_true rfl)
                  refine ret_bt ?_
                  unfold okHead bitsOk
                  grind
                · refine go_iload_n dRef_isGood_82 rfl ?_
                  refine go_iconst (v := 2) dRef_isGood_83 (by decide) ?_
                  refine go_icmp_eq (tgt := 98) dRef_isGood_84 (fun c9 => ?_) (fun c9 => ?_)
                  · refine go_iconst (v := 1) dRef_isGood_98 (by decide) ?_
                    refine go_goto (tgt := 103) dRef_isGood_99 ?_
                    refine go_iret dRef_isGood_103 rfl rfl ?_ (Nat.le_of_ble_eq_true rfl) (Nat.le_of_ble_eq_true rfl)
                    refine ret_bt ?_
                    unfold okHead bitsOk
                    grind
                  · refine go_iload_n dRef_isGood_87 rfl ?_
                    refine go_iconst (v := 4) dRef_isGood_88 (by decide) ?_
                    refine go_icmp_eq (tgt := 98) dRef_isGood_89 (fun c10 => ?_) (fun c10 => ?_)
                    · refine go_iconst (v := 1) dRef_isGood_98 (by decide) ?_
                      refine go_goto (tgt := 103) dRef_isGood_99 ?_
                      refine go_iret dRef_isGood_103 rfl rfl ?_ (Nat.le_of_ble_eq_true rfl) (Nat.le_of_ble_eq_true rfl)
                      refine ret_bt ?_
                      unfold okHead bitsOk
                      grind
                    · refine go_iload_n dRef_isGood_92 rfl ?_
                      refine go_bipush (v := 8) dRef_isGood_93 (by decide) ?_
                      refine go_icmp_ne (tgt := 102) dRef_isGood_95 (fun c11 => ?_) (fun c11 => ?_)
                      · refine go_iconst (v := 0) dRef_isGood_102 (by decide) ?_
                        refine go_iret dRef_isGood_103 rfl rfl ?_ (Nat.le_of_ble_eq_true rfl) (Nat.le_of_ble_eq_true rfl)
                        refine ret_bf ?_
                        unfold okHead bitsOk
                        grind
                      · refine go_iconst (v := 1) dRef_isGood_98 (by decide) ?_
                        refine go_goto (tgt := 103) dRef_isGood_99 ?_
                        refine go_iret dRef_isGood_103 rfl rfl ?_ (Nat.le_of_ble_eq_true rfl) (Nat.le_of_ble_eq_true rfl)
                        refine ret_bt ?_
                        unfold okHead bitsOk
                        grind
set_option maxHeartbeats 4000000 in
theorem l_Ref_isGood1 {E : pmEv} {h0 h : pmH} {z : Option Nat} {d : Bool} {x y u v : Int32} : Go E (mRef_isGood, h0, 0, 0) 16 [some (.int x), some (.int y), some (.int u), some (.int v), some (.int (bI (v = 0 ∨ v = 3))), none] [] (h, z, false) 0 0 (Ret (some (.int (bI (okHead x y u v)))) (h, z, false)) := by
  refine go_iload_n dRef_isGood_16 rfl ?_
  refine go_iconst (v := 2) dRef_isGood_17 (by decide) ?_
  refine go_icmp_eq (tgt := 32) dRef_isGood_18 (fun c1 => ?_) (fun c1 => ?_)
  · refine go_iconst (v := 1) dRef_isGood_32 (by decide) ?_
    refine go_goto (tgt := 37) dRef_isGood_33 ?_
    refine go_istore dRef_isGood_37 ?_
    exact go_at (l_Ref_isGood2 (d := false)) rfl (by rw [bI_t (p := v = 2 ∨ v = 4 ∨ v = 6) (by simp [c1])]; rfl) rfl rfl
  · refine go_iload_n dRef_isGood_21 rfl ?_
    refine go_iconst (v := 4) dRef_isGood_22 (by decide) ?_
    refine go_icmp_eq (tgt := 32) dRef_isGood_23 (fun c2 => ?_) (fun c2 => ?_)
    · refine go_iconst (v := 1) dRef_isGood_32 (by decide) ?_
      refine go_goto (tgt := 37) dRef_isGood_33 ?_
      refine go_istore dRef_isGood_37 ?_
      exact go_at (l_Ref_isGood2 (d := false)) rfl (by rw [bI_t (p := v = 2 ∨ v = 4 ∨ v = 6) (by simp [c1, c2])]; rfl) rfl rfl
    · refine go_iload_n dRef_isGood_26 rfl ?_
      refine go_bipush (v := 6) dRef_isGood_27 (by decide) ?_
      refine go_icmp_ne (tgt := 36) dRef_isGood_29 (fun c3 => ?_) (fun c3 => ?_)
      · refine go_iconst (v := 0) dRef_isGood_36 (by decide) ?_
        refine go_istore dRef_isGood_37 ?_
        exact go_at (l_Ref_isGood2 (d := false)) rfl (by rw [bI_f (p := v = 2 ∨ v = 4 ∨ v = 6) (by simp [c1, c2, c3])]; rfl) rfl rfl
      · refine go_iconst (v := 1) dRef_isGood_32 (by decide) ?_
        refine go_goto (tgt := 37) dRef_isGood_33 ?_
        refine go_istore dRef_isGood_37 ?_
        exact go_at (l_Ref_isGood2 (d := false)) rfl (by rw [bI_t (p := v = 2 ∨ v = 4 ∨ v = 6) (by simp [c1, c2, c3])]; rfl) rfl rfl
set_option maxHeartbeats 4000000 in
theorem r_isGood {E : pmEv} {h : pmH} {z : Option Nat} {x y u v : Int32} : Call E mRef_isGood [.int x, .int y, .int u, .int v] h z 0 0 (Ret (some (.int (bI (okHead x y u v)))) (h, z, false)) := by
  refine call_of (L := [some (.int x), some (.int y), some (.int u), some (.int v), none, none]) ok_mRef_isGood (Nat.le_of_ble_eq_true rfl) ?_
  refine go_iload_n dRef_isGood_0 rfl ?_
  refine go_if_eq (tgt := 9) dRef_isGood_1 (fun c1 => ?_) (fun c1 => ?_)
  · refine go_iconst (v := 1) dRef_isGood_9 (by decide) ?_
    refine go_goto (tgt := 14) dRef_isGood_10 ?_
    refine go_istore dRef_isGood_14 ?_
    exact go_at (l_Ref_isGood1 (d := false)) rfl (by rw [bI_t (p := v = 0 ∨ v = 3) (by simp [c1])]; rfl) rfl rfl
  · refine go_iload_n dRef_isGood_4 rfl ?_
    refine go_iconst (v := 3) dRef_isGood_5 (by decide) ?_
    refine go_icmp_ne (tgt := 13) dRef_isGood_6 (fun c2 => ?_) (fun c2 => ?_)
    · refine go_iconst (v := 0) dRef_isGood_13 (by decide) ?_
      refine go_istore dRef_isGood_14 ?_
      exact go_at (l_Ref_isGood1 (d := false)) rfl (by rw [bI_f (p := v = 0 ∨ v = 3) (by simp [c1, c2])]; rfl) rfl rfl
    · refine go_iconst (v := 1) dRef_isGood_9 (by decide) ?_
      refine go_goto (tgt := 14) dRef_isGood_10 ?_
      refine go_istore dRef_isGood_14 ?_
      exact go_at (l_Ref_isGood1 (d := false)) rfl (by rw [bI_t (p := v = 0 ∨ v = 3) (by simp [c1, c2])]; rfl) rfl rfl
set_option maxHeartbeats 4000000 in
theorem r_letter {E : pmEv} {h : pmH} {z : Option Nat} {x : Int32} {k : Nat} (hk : k < 4) : Call E mRef_letter [.int x, .int (nI k)] h z 0 0 (Ret (some (.int (ltr x (nI k)))) (h, z, false)) := by
  refine call_of (L := [some (.int x), some (.int (nI k))]) ok_mRef_letter (Nat.le_of_ble_eq_true rfl) ?_
  refine go_iload_n dRef_letter_0 rfl ?_
  refine go_bipush (v := 24) dRef_letter_1 (by decide) ?_
  refine go_bipush (v := 8) dRef_letter_3 (by decide) ?_
  refine go_iload_n dRef_letter_5 rfl ?_
  refine go_imul dRef_letter_6 ?_
  refine go_isub dRef_letter_7 ?_
  refine go_ishr dRef_letter_8 ?_
  refine go_sipush (v := 255) dRef_letter_9 (by decide) ?_
  refine go_iand dRef_letter_12 ?_
  refine go_iret dRef_letter_13 rfl rfl ?_ (Nat.le_of_ble_eq_true rfl) (Nat.le_of_ble_eq_true rfl)
  exact ret_e (by rw [ltr_sh hk])
set_option maxHeartbeats 4000000 in
theorem l_Ref_areLetters {E : pmEv} {h : pmH} {z : Option Nat} {x : Int32} : ∀ (n : Nat) (k : Nat), k + n = 4 → Go E (mRef_areLetters, h, 0, 0) 4 [some (.int x), some (.int (bI (∀ j, j < k → isLet (ltr x (nI j))))), some (.int (nI (k)))] [] (h, z, false) 0 0 (Ret (some (.int (bI (letsOk x)))) (h, z, false)) := by
  intro n
  induction n with
  | zero =>
    intro k hk
    refine go_iload_n dRef_areLetters_4 rfl ?_
    refine go_iconst (v := 4) dRef_areLetters_5 (by decide) ?_
    refine go_icmp_ge (tgt := 47) dRef_areLetters_6 (fun c1 => ?_) (fun c1 => ?_)
    · refine go_iload_n dRef_areLetters_47 rfl ?_
      refine go_ifeq_b (tgt := 66) dRef_areLetters_48 (fun c2 => ?_) (fun c2 => ?_)
      · refine go_iconst (v := 0) dRef_areLetters_66 (by decide) ?_
        refine go_iret dRef_areLetters_67 rfl rfl ?_ (Nat.le_of_ble_eq_true rfl) (Nat.le_of_ble_eq_true rfl)
        obtain rfl : k = 4 := by omega
        exact ret_bf (fun q => c2 (lets_4i q))
      · refine go_iload_n dRef_areLetters_51 rfl ?_
        refine go_iconst (v := 2) dRef_areLetters_52 (by decide) ?_
        refine go_statP dRef_areLetters_53 ok_mRef_letter st_mRef_letter qm_Ref_111 (r_letter (k := 2) (by omega)) ?_ (hnp := np_mRef_letter)
        refine go_statP dRef_areLetters_56 ok_mRef_isGreat st_mRef_isGreat qm_Ref_115 r_isGreat ?_ (hnp := np_mRef_isGreat)
        refine go_ifeq_b (tgt := 66) dRef_areLetters_59 (fun c3 => ?_) (fun c3 => ?_)
        · refine go_iconst (v := 0) dRef_areLetters_66 (by decide) ?_
          refine go_iret dRef_areLetters_67 rfl rfl ?_ (Nat.le_of_ble_eq_true rfl) (Nat.le_of_ble_eq_true rfl)
          obtain rfl : k = 4 := by omega
          exact ret_bf (fun q => c3 q.2.2.1)
        · refine go_iconst (v := 1) dRef_areLetters_62 (by decide) ?_
          refine go_goto (tgt := 67) dRef_areLetters_63 ?_
          refine go_iret dRef_areLetters_67 rfl rfl ?_ (Nat.le_of_ble_eq_true rfl) (Nat.le_of_ble_eq_true rfl)
          obtain rfl : k = 4 := by omega
          exact ret_bt (lets_4 c2 c3)
    · exact absurd (nI_le (a := 4) (b := k) (by omega) (by omega)) c1
  | succ n ih =>
    intro k hk
    refine go_iload_n dRef_areLetters_4 rfl ?_
    refine go_iconst (v := 4) dRef_areLetters_5 (by decide) ?_
    refine go_icmp_ge (tgt := 47) dRef_areLetters_6 (fun c1 => ?_) (fun c1 => ?_)
    · exact absurd c1 (nI_ge (a := k) (b := 4) (by omega) (by omega))
    · refine go_iload_n dRef_areLetters_9 rfl ?_
      refine go_ifeq_b (tgt := 39) dRef_areLetters_10 (fun c2 => ?_) (fun c2 => ?_)
      · refine go_iconst (v := 0) dRef_areLetters_39 (by decide) ?_
        refine go_istore_n dRef_areLetters_40 ?_
        refine go_iinc dRef_areLetters_41 rfl (congrArg (_ + ·) lit1) ?_
        refine go_goto (tgt := 4) dRef_areLetters_44 ?_
        exact go_at (ih (k + 1) (by omega)) rfl (by rw [bI_f (p := ∀ j, j < k + 1 → isLet (ltr x (nI j))) (fun q => c2 (fun j hj => q j (by omega))), nI_succ k]; rfl) rfl rfl
      · refine go_iload_n dRef_areLetters_13 rfl ?_
        refine go_iload_n dRef_areLetters_14 rfl ?_
        refine go_statP dRef_areLetters_15 ok_mRef_letter st_mRef_letter qm_Ref_111 (r_letter (k := k) (by omega)) ?_ (hnp := np_mRef_letter)
        refine go_statP dRef_areLetters_18 ok_mRef_isGreat st_mRef_isGreat qm_Ref_115 r_isGreat ?_ (hnp := np_mRef_isGreat)
        refine go_ifne_b (tgt := 35) dRef_areLetters_21 (fun c3 => ?_) (fun c3 => ?_)
        · refine go_iconst (v := 1) dRef_areLetters_35 (by decide) ?_
          refine go_goto (tgt := 40) dRef_areLetters_36 ?_
          refine go_istore_n dRef_areLetters_40 ?_
          refine go_iinc dRef_areLetters_41 rfl (congrArg (_ + ·) lit1) ?_
          refine go_goto (tgt := 4) dRef_areLetters_44 ?_
          exact go_at (ih (k + 1) (by omega)) rfl (by rw [bI_t (p := ∀ j, j < k + 1 → isLet (ltr x (nI j))) (allS c2 (Or.inl c3)), nI_succ k]; rfl) rfl rfl
        · refine go_iload_n dRef_areLetters_24 rfl ?_
          refine go_iload_n dRef_areLetters_25 rfl ?_
          refine go_statP dRef_areLetters_26 ok_mRef_letter st_mRef_letter qm_Ref_111 (r_letter (k := k) (by omega)) ?_ (hnp := np_mRef_letter)
          refine go_statP dRef_areLetters_29 ok_mRef_isSmall st_mRef_isSmall qm_Ref_118 r_isSmall ?_ (hnp := np_mRef_isSmall)
          refine go_ifeq_b (tgt := 39) dRef_areLetters_32 (fun c4 => ?_) (fun c4 => ?_)
          · refine go_iconst (v := 0) dRef_areLetters_39 (by decide) ?_
            refine go_istore_n dRef_areLetters_40 ?_
            refine go_iinc dRef_areLetters_41 rfl (congrArg (_ + ·) lit1) ?_
            refine go_goto (tgt := 4) dRef_areLetters_44 ?_
            exact go_at (ih (k + 1) (by omega)) rfl (by rw [bI_f (p := ∀ j, j < k + 1 → isLet (ltr x (nI j))) (fun q => (q k (by omega)).elim c3 c4), nI_succ k]; rfl) rfl rfl
          · refine go_iconst (v := 1) dRef_areLetters_35 (by decide) ?_
            refine go_goto (tgt := 40) dRef_areLetters_36 ?_
            refine go_istore_n dRef_areLetters_40 ?_
            refine go_iinc dRef_areLetters_41 rfl (congrArg (_ + ·) lit1) ?_
            refine go_goto (tgt := 4) dRef_areLetters_44 ?_
            exact go_at (ih (k + 1) (by omega)) rfl (by rw [bI_t (p := ∀ j, j < k + 1 → isLet (ltr x (nI j))) (allS c2 (Or.inr c4)), nI_succ k]; rfl) rfl rfl
set_option maxHeartbeats 4000000 in
theorem r_areLetters {E : pmEv} {h : pmH} {z : Option Nat} {x : Int32} : Call E mRef_areLetters [.int x] h z 0 0 (Ret (some (.int (bI (letsOk x)))) (h, z, false)) := by
  refine call_of (L := [some (.int x), none, none]) ok_mRef_areLetters (Nat.le_of_ble_eq_true rfl) ?_
  refine go_iconst (v := 1) dRef_areLetters_0 (by decide) ?_
  refine go_istore_n dRef_areLetters_1 ?_
  refine go_iconst (v := 0) dRef_areLetters_2 (by decide) ?_
  refine go_istore_n dRef_areLetters_3 ?_
  exact go_at (l_Ref_areLetters 4 0 (by omega)) rfl (by rw [bI_t (p := ∀ j, j < 0 → isLet (ltr x (nI j))) (fun j hj => absurd hj (Nat.not_lt_zero j))]; rfl) rfl rfl
set_option maxHeartbeats 4000000 in
theorem r_isOfOthers {E : pmEv} {h : pmH} {z : Option Nat} {x : Int32} : Call E mRef_isOfOthers [.int x] h z 0 0 (Ret (some (.int (bI (exOk x)))) (h, z, false)) := by
  refine call_of (L := [some (.int x)]) ok_mRef_isOfOthers (Nat.le_of_ble_eq_true rfl) ?_
  refine go_iload_n dRef_isOfOthers_0 rfl ?_
  refine go_statP dRef_isOfOthers_1 ok_mRef_areLetters st_mRef_areLetters qm_Ref_121 r_areLetters ?_ (hnp := np_mRef_areLetters)
  refine go_ifeq_b (tgt := 46) dRef_isOfOthers_4 (fun c1 => ?_) (fun c1 => ?_)
  · refine go_iconst (v := 0) dRef_isOfOthers_46 (by decide) ?_
    refine go_iret dRef_isOfOthers_47 rfl rfl ?_ (Nat.le_of_ble_eq_true rfl) (Nat.le_of_ble_eq_true rfl)
    exact ret_bf (fun q => c1 q.1)
  · refine go_iload_n dRef_isOfOthers_7 rfl ?_
    refine go_iconst (v := 0) dRef_isOfOthers_8 (by decide) ?_
    refine go_statP dRef_isOfOthers_9 ok_mRef_letter st_mRef_letter qm_Ref_111 (r_letter (k := 0) (by omega)) ?_ (hnp := np_mRef_letter)
    refine go_statP dRef_isOfOthers_12 ok_mRef_isSmall st_mRef_isSmall qm_Ref_118 r_isSmall ?_ (hnp := np_mRef_isSmall)
    refine go_ifeq_b (tgt := 46) dRef_isOfOthers_15 (fun c2 => ?_) (fun c2 => ?_)
    · refine go_iconst (v := 0) dRef_isOfOthers_46 (by decide) ?_
      refine go_iret dRef_isOfOthers_47 rfl rfl ?_ (Nat.le_of_ble_eq_true rfl) (Nat.le_of_ble_eq_true rfl)
      exact ret_bf (fun q => c2 (sm_of q))
    · refine go_iload_n dRef_isOfOthers_18 rfl ?_
      refine go_ldc dRef_isOfOthers_19 qc_Ref_124 ?_
      refine go_icmp_eq (tgt := 46) dRef_isOfOthers_21 (fun c3 => ?_) (fun c3 => ?_)
      · refine go_iconst (v := 0) dRef_isOfOthers_46 (by decide) ?_
        refine go_iret dRef_isOfOthers_47 rfl rfl ?_ (Nat.le_of_ble_eq_true rfl) (Nat.le_of_ble_eq_true rfl)
        exact ret_bf (fun q => q.2.2.1 c3)
      · refine go_iload_n dRef_isOfOthers_24 rfl ?_
        refine go_ldc dRef_isOfOthers_25 qc_Ref_125 ?_
        refine go_icmp_eq (tgt := 46) dRef_isOfOthers_27 (fun c4 => ?_) (fun c4 => ?_)
        · refine go_iconst (v := 0) dRef_isOfOthers_46 (by decide) ?_
          refine go_iret dRef_isOfOthers_47 rfl rfl ?_ (Nat.le_of_ble_eq_true rfl) (Nat.le_of_ble_eq_true rfl)
          exact ret_bf (fun q => q.2.2.2.1 c4)
        · refine go_iload_n dRef_isOfOthers_30 rfl ?_
          refine go_ldc dRef_isOfOthers_31 qc_Ref_126 ?_
          refine go_icmp_eq (tgt := 46) dRef_isOfOthers_33 (fun c5 => ?_) (fun c5 => ?_)
          · refine go_iconst (v := 0) dRef_isOfOthers_46 (by decide) ?_
            refine go_iret dRef_isOfOthers_47 rfl rfl ?_ (Nat.le_of_ble_eq_true rfl) (Nat.le_of_ble_eq_true rfl)
            exact ret_bf (fun q => q.2.2.2.2.1 c5)
          · refine go_iload_n dRef_isOfOthers_36 rfl ?_
            refine go_ldc dRef_isOfOthers_37 qc_Ref_127 ?_
            refine go_icmp_eq (tgt := 46) dRef_isOfOthers_39 (fun c6 => ?_) (fun c6 => ?_)
            · refine go_iconst (v := 0) dRef_isOfOthers_46 (by decide) ?_
              refine go_iret dRef_isOfOthers_47 rfl rfl ?_ (Nat.le_of_ble_eq_true rfl) (Nat.le_of_ble_eq_true rfl)
              exact ret_bf (fun q => q.2.2.2.2.2 c6)
            · refine go_iconst (v := 1) dRef_isOfOthers_42 (by decide) ?_
              refine go_goto (tgt := 47) dRef_isOfOthers_43 ?_
              refine go_iret dRef_isOfOthers_47 rfl rfl ?_ (Nat.le_of_ble_eq_true rfl) (Nat.le_of_ble_eq_true rfl)
              exact ret_bt ⟨c1, not_gr c2, c3, c4, c5, c6⟩
set_option maxHeartbeats 4000000 in
theorem r_tagOf {E : pmEv} {h : pmH} {z : Option Nat} {x : Int32} : Call E mRef_tagOf [.int x] h z 0 0 (Ret (some (.int (tgN x))) (h, z, false)) := by
  refine call_of (L := [some (.int x)]) ok_mRef_tagOf (Nat.le_of_ble_eq_true rfl) ?_
  refine go_iload_n dRef_tagOf_0 rfl ?_
  refine go_ldc dRef_tagOf_1 qc_Ref_124 ?_
  refine go_icmp_ne (tgt := 10) dRef_tagOf_3 (fun c1 => ?_) (fun c1 => ?_)
  · refine go_iload_n dRef_tagOf_10 rfl ?_
    refine go_ldc dRef_tagOf_11 qc_Ref_125 ?_
    refine go_icmp_ne (tgt := 20) dRef_tagOf_13 (fun c2 => ?_) (fun c2 => ?_)
    · refine go_iload_n dRef_tagOf_20 rfl ?_
      refine go_ldc dRef_tagOf_21 qc_Ref_126 ?_
      refine go_icmp_ne (tgt := 30) dRef_tagOf_23 (fun c3 => ?_) (fun c3 => ?_)
      · refine go_iconst (v := -1) dRef_tagOf_30 (by decide) ?_
        refine go_iret dRef_tagOf_31 rfl rfl ?_ (Nat.le_of_ble_eq_true rfl) (Nat.le_of_ble_eq_true rfl)
        exact ret_e (by rw [tgN, if_neg c1, if_neg c2, if_neg c3])
      · refine go_iconst (v := 2) dRef_tagOf_26 (by decide) ?_
        refine go_goto (tgt := 31) dRef_tagOf_27 ?_
        refine go_iret dRef_tagOf_31 rfl rfl ?_ (Nat.le_of_ble_eq_true rfl) (Nat.le_of_ble_eq_true rfl)
        exact ret_e (by rw [tgN, if_neg c1, if_neg c2, if_pos c3])
    · refine go_iconst (v := 1) dRef_tagOf_16 (by decide) ?_
      refine go_goto (tgt := 31) dRef_tagOf_17 ?_
      refine go_iret dRef_tagOf_31 rfl rfl ?_ (Nat.le_of_ble_eq_true rfl) (Nat.le_of_ble_eq_true rfl)
      exact ret_e (by rw [tgN, if_neg c1, if_pos c2])
  · refine go_iconst (v := 0) dRef_tagOf_6 (by decide) ?_
    refine go_goto (tgt := 31) dRef_tagOf_7 ?_
    refine go_iret dRef_tagOf_31 rfl rfl ?_ (Nat.le_of_ble_eq_true rfl) (Nat.le_of_ble_eq_true rfl)
    exact ret_e (by rw [tgN, if_pos c1])
set_option maxHeartbeats 4000000 in
theorem r_mayBe {E : pmEv} {h : pmH} {z : Option Nat} {x v : Int32} : Call E mRef_mayBe [.int x, .long v.toInt64] h z 0 0 (Ret (some (.int (bI (tgOk x v)))) (h, z, false)) := by
  refine call_of (L := [some (.int x), some (.long v.toInt64), none]) ok_mRef_mayBe (Nat.le_of_ble_eq_true rfl) ?_
  refine go_iload_n dRef_mayBe_0 rfl ?_
  refine go_iconst (v := 1) dRef_mayBe_1 (by decide) ?_
  refine go_icmp_ne (tgt := 27) dRef_mayBe_2 (fun c1 => ?_) (fun c1 => ?_)
  · refine go_lload_n dRef_mayBe_27 rfl ?_
    refine go_lconst (v := 1) dRef_mayBe_28 (by decide) ?_
    refine go_lcmp dRef_mayBe_29 ?_
    refine go_if_lt (tgt := 45) dRef_mayBe_30 (fun c2 => ?_) (fun c2 => ?_)
    · refine go_iconst (v := 0) dRef_mayBe_45 (by decide) ?_
      refine go_iret dRef_mayBe_46 rfl rfl ?_ (Nat.le_of_ble_eq_true rfl) (Nat.le_of_ble_eq_true rfl)
      rw [lc_1] at c2
      refine ret_bf ?_
      unfold tgOk
      grind
    · refine go_lload_n dRef_mayBe_33 rfl ?_
      refine go_ldc2 dRef_mayBe_34 qj_Ref_105 ?_
      refine go_lcmp dRef_mayBe_37 ?_
      refine go_if_gt (tgt := 45) dRef_mayBe_38 (fun c3 => ?_) (fun c3 => ?_)
      · refine go_iconst (v := 0) dRef_mayBe_45 (by decide) ?_
        refine go_iret dRef_mayBe_46 rfl rfl ?_ (Nat.le_of_ble_eq_true rfl) (Nat.le_of_ble_eq_true rfl)
        rw [lc_1] at c2
        rw [lc_M] at c3
        refine ret_bf ?_
        unfold tgOk
        grind
      · refine go_iconst (v := 1) dRef_mayBe_41 (by decide) ?_
        refine go_goto (tgt := 46) dRef_mayBe_42 ?_
        refine go_iret dRef_mayBe_46 rfl rfl ?_ (Nat.le_of_ble_eq_true rfl) (Nat.le_of_ble_eq_true rfl)
        rw [lc_1] at c2
        rw [lc_M] at c3
        refine ret_bt ?_
        unfold tgOk
        grind
  · refine go_lload_n dRef_mayBe_5 rfl ?_
    refine go_lconst (v := 0) dRef_mayBe_6 (by decide) ?_
    refine go_lcmp dRef_mayBe_7 ?_
    refine go_if_lt (tgt := 23) dRef_mayBe_8 (fun c2 => ?_) (fun c2 => ?_)
    · refine go_iconst (v := 0) dRef_mayBe_23 (by decide) ?_
      refine go_goto (tgt := 46) dRef_mayBe_24 ?_
      refine go_iret dRef_mayBe_46 rfl rfl ?_ (Nat.le_of_ble_eq_true rfl) (Nat.le_of_ble_eq_true rfl)
      rw [lc_0] at c2
      refine ret_bf ?_
      unfold tgOk
      grind
    · refine go_lload_n dRef_mayBe_11 rfl ?_
      refine go_ldc2 dRef_mayBe_12 qj_Ref_103 ?_
      refine go_lcmp dRef_mayBe_15 ?_
      refine go_if_gt (tgt := 23) dRef_mayBe_16 (fun c3 => ?_) (fun c3 => ?_)
      · refine go_iconst (v := 0) dRef_mayBe_23 (by decide) ?_
        refine go_goto (tgt := 46) dRef_mayBe_24 ?_
        refine go_iret dRef_mayBe_46 rfl rfl ?_ (Nat.le_of_ble_eq_true rfl) (Nat.le_of_ble_eq_true rfl)
        rw [lc_0] at c2
        rw [lc_3] at c3
        refine ret_bf ?_
        unfold tgOk
        grind
      · refine go_iconst (v := 1) dRef_mayBe_19 (by decide) ?_
        refine go_goto (tgt := 46) dRef_mayBe_20 ?_
        refine go_iret dRef_mayBe_46 rfl rfl ?_ (Nat.le_of_ble_eq_true rfl) (Nat.le_of_ble_eq_true rfl)
        rw [lc_0] at c2
        rw [lc_3] at c3
        refine ret_bt ?_
        unfold tgOk
        grind
set_option maxHeartbeats 4000000 in
theorem r_bytesInRow {E : pmEv} {h : pmH} {z : Option Nat} {d : Nat × Nat × Nat × Nat} (ho : okN d) : Call E mRef_bytesInRow [.int (nI d.1), .int (nI d.2.2.2), .int (nI d.2.2.1)] h z 0 0 (Ret (some (.int (nI (rlN d)))) (h, z, false)) := by
  refine call_of (L := [some (.int (nI d.1)), some (.int (nI d.2.2.2)), some (.int (nI d.2.2.1))]) ok_mRef_bytesInRow (Nat.le_of_ble_eq_true rfl) ?_
  refine go_iconst (v := 1) dRef_bytesInRow_0 (by decide) ?_
  refine go_iload_n dRef_bytesInRow_1 rfl ?_
  refine go_iload_n dRef_bytesInRow_2 rfl ?_
  refine go_statP dRef_bytesInRow_3 ok_mRef_channelsOf st_mRef_channelsOf qm_Ref_100 r_channelsOf ?_ (hnp := np_mRef_channelsOf)
  refine go_imul dRef_bytesInRow_6 ?_
  refine go_iload_n dRef_bytesInRow_7 rfl ?_
  refine go_imul dRef_bytesInRow_8 ?_
  refine go_bipush (v := 7) dRef_bytesInRow_9 (by decide) ?_
  refine go_iadd dRef_bytesInRow_11 ?_
  refine go_bipush (v := 8) dRef_bytesInRow_12 (by decide) ?_
  refine go_idiv dRef_bytesInRow_14 (by decide) ?_
  refine go_iadd dRef_bytesInRow_15 ?_
  refine go_iret dRef_bytesInRow_16 rfl rfl ?_ (Nat.le_of_ble_eq_true rfl) (Nat.le_of_ble_eq_true rfl)
  exact ret_e (by rw [chOf_n ho.k, pk_mul, pk_mul]; exact congrArg (fun x => some (Value.int x)) (rl_n ho))
set_option maxHeartbeats 4000000 in
theorem r_mark {E : pmEv} {h : pmH} {z : Option Nat} {k : Nat} (hk : k < 8) : Call E mRef_mark [.int (nI k)] h z 0 0 (Ret (some (.int (bM k))) (h, z, false)) := by
  refine call_of (L := [some (.int (nI k))]) ok_mRef_mark (Nat.le_of_ble_eq_true rfl) ?_
  refine go_iload_n dRef_mark_0 rfl ?_
  refine go_by (0) (fun s1 => ?_) (fun s1 => ?_)
  · refine go_tableIn (tgt := 44) (off := 43) dRef_mark_1 (by decide) (by decide) (by decide) ?_
    refine go_sipush (v := 137) dRef_mark_44 (by decide) ?_
    refine go_iret dRef_mark_47 rfl rfl ?_ (Nat.le_of_ble_eq_true rfl) (Nat.le_of_ble_eq_true rfl)
    have e : k = 0 := (nI_inj (b := 0) (by omega) (by omega)).mp s1
    subst e
    exact ret_v
  refine go_by (1) (fun s2 => ?_) (fun s2 => ?_)
  · refine go_tableIn (tgt := 48) (off := 47) dRef_mark_1 (by decide) (by decide) (by decide) ?_
    refine go_bipush (v := 80) dRef_mark_48 (by decide) ?_
    refine go_iret dRef_mark_50 rfl rfl ?_ (Nat.le_of_ble_eq_true rfl) (Nat.le_of_ble_eq_true rfl)
    have e : k = 1 := (nI_inj (b := 1) (by omega) (by omega)).mp s2
    subst e
    exact ret_v
  refine go_by (2) (fun s3 => ?_) (fun s3 => ?_)
  · refine go_tableIn (tgt := 51) (off := 50) dRef_mark_1 (by decide) (by decide) (by decide) ?_
    refine go_bipush (v := 78) dRef_mark_51 (by decide) ?_
    refine go_iret dRef_mark_53 rfl rfl ?_ (Nat.le_of_ble_eq_true rfl) (Nat.le_of_ble_eq_true rfl)
    have e : k = 2 := (nI_inj (b := 2) (by omega) (by omega)).mp s3
    subst e
    exact ret_v
  refine go_by (3) (fun s4 => ?_) (fun s4 => ?_)
  · refine go_tableIn (tgt := 54) (off := 53) dRef_mark_1 (by decide) (by decide) (by decide) ?_
    refine go_bipush (v := 71) dRef_mark_54 (by decide) ?_
    refine go_iret dRef_mark_56 rfl rfl ?_ (Nat.le_of_ble_eq_true rfl) (Nat.le_of_ble_eq_true rfl)
    have e : k = 3 := (nI_inj (b := 3) (by omega) (by omega)).mp s4
    subst e
    exact ret_v
  refine go_by (4) (fun s5 => ?_) (fun s5 => ?_)
  · refine go_tableIn (tgt := 57) (off := 56) dRef_mark_1 (by decide) (by decide) (by decide) ?_
    refine go_bipush (v := 13) dRef_mark_57 (by decide) ?_
    refine go_iret dRef_mark_59 rfl rfl ?_ (Nat.le_of_ble_eq_true rfl) (Nat.le_of_ble_eq_true rfl)
    have e : k = 4 := (nI_inj (b := 4) (by omega) (by omega)).mp s5
    subst e
    exact ret_v
  refine go_by (5) (fun s6 => ?_) (fun s6 => ?_)
  · refine go_tableIn (tgt := 63) (off := 62) dRef_mark_1 (by decide) (by decide) (by decide) ?_
    refine go_bipush (v := 10) dRef_mark_63 (by decide) ?_
    refine go_iret dRef_mark_65 rfl rfl ?_ (Nat.le_of_ble_eq_true rfl) (Nat.le_of_ble_eq_true rfl)
    have e : k = 5 := (nI_inj (b := 5) (by omega) (by omega)).mp s6
    subst e
    exact ret_v
  refine go_by (6) (fun s7 => ?_) (fun s7 => ?_)
  · refine go_tableIn (tgt := 60) (off := 59) dRef_mark_1 (by decide) (by decide) (by decide) ?_
    refine go_bipush (v := 26) dRef_mark_60 (by decide) ?_
    refine go_iret dRef_mark_62 rfl rfl ?_ (Nat.le_of_ble_eq_true rfl) (Nat.le_of_ble_eq_true rfl)
    have e : k = 6 := (nI_inj (b := 6) (by omega) (by omega)).mp s7
    subst e
    exact ret_v
  refine go_tableOut (tgt := 63) dRef_mark_1 (by have a0 := lv_neT s1 (a := 0) (by decide); have a1 := lv_neT s2 (a := 1) (by decide); have a2 := lv_neT s3 (a := 2) (by decide); have a3 := lv_neT s4 (a := 3) (by decide); have a4 := lv_neT s5 (a := 4) (by decide); have a5 := lv_neT s6 (a := 5) (by decide); have a6 := lv_neT s7 (a := 6) (by decide); omega) ?_
  refine go_bipush (v := 10) dRef_mark_63 (by decide) ?_
  refine go_iret dRef_mark_65 rfl rfl ?_ (Nat.le_of_ble_eq_true rfl) (Nat.le_of_ble_eq_true rfl)
  have a0 : k ≠ 0 := fun e => s1 (by rw [e]; rfl)
  have a1 : k ≠ 1 := fun e => s2 (by rw [e]; rfl)
  have a2 : k ≠ 2 := fun e => s3 (by rw [e]; rfl)
  have a3 : k ≠ 3 := fun e => s4 (by rw [e]; rfl)
  have a4 : k ≠ 4 := fun e => s5 (by rw [e]; rfl)
  have a5 : k ≠ 5 := fun e => s6 (by rw [e]; rfl)
  have a6 : k ≠ 6 := fun e => s7 (by rw [e]; rfl)
  obtain rfl : k = 7 := by omega
  exact ret_v
set_option maxHeartbeats 4000000 in
theorem r_four {E : pmEv} {h : pmH} {z : Option Nat} {a N : Nat} {f : Nat → Int32} {j : Nat} (hN : N ≤ 4096) (hj : j + 3 < N) (hf : h a = some (pmI N f)) : Call E mRef_four [.ref a, .int (nI j)] h z 0 0 (Ret (some (.int (fr f j))) (h, z, false)) := by
  refine call_of (L := [some (.ref a), some (.int (nI j))]) ok_mRef_four (Nat.le_of_ble_eq_true rfl) ?_
  refine go_aload_n dRef_four_0 rfl ?_
  refine go_iload_n dRef_four_1 rfl ?_
  refine go_iald dRef_four_2 hf (by exact vp_in_nI (by omega) (by omega)) (congrArg _ (nI_clamp (by omega))) ?_
  refine go_bipush (v := 24) dRef_four_3 (by decide) ?_
  refine go_ishl dRef_four_5 ?_
  refine go_aload_n dRef_four_6 rfl ?_
  refine go_iload_n dRef_four_7 rfl ?_
  refine go_iconst (v := 1) dRef_four_8 (by decide) ?_
  refine go_iadd dRef_four_9 ?_
  rw [nI_a1]
  refine go_iald dRef_four_10 hf (by exact vp_in_nI (by omega) (by omega)) (congrArg _ (nI_clamp (by omega))) ?_
  refine go_bipush (v := 16) dRef_four_11 (by decide) ?_
  refine go_ishl dRef_four_13 ?_
  refine go_ior dRef_four_14 ?_
  refine go_aload_n dRef_four_15 rfl ?_
  refine go_iload_n dRef_four_16 rfl ?_
  refine go_iconst (v := 2) dRef_four_17 (by decide) ?_
  refine go_iadd dRef_four_18 ?_
  rw [nI_a2]
  refine go_iald dRef_four_19 hf (by exact vp_in_nI (by omega) (by omega)) (congrArg _ (nI_clamp (by omega))) ?_
  refine go_bipush (v := 8) dRef_four_20 (by decide) ?_
  refine go_ishl dRef_four_22 ?_
  refine go_ior dRef_four_23 ?_
  refine go_aload_n dRef_four_24 rfl ?_
  refine go_iload_n dRef_four_25 rfl ?_
  refine go_iconst (v := 3) dRef_four_26 (by decide) ?_
  refine go_iadd dRef_four_27 ?_
  rw [nI_a3]
  refine go_iald dRef_four_28 hf (by exact vp_in_nI (by omega) (by omega)) (congrArg _ (nI_clamp (by omega))) ?_
  refine go_ior dRef_four_29 ?_
  refine go_iret dRef_four_30 rfl rfl ?_ (Nat.le_of_ble_eq_true rfl) (Nat.le_of_ble_eq_true rfl)
  exact ret_v
