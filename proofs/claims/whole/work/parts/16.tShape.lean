/-! ===== Shape and Letters (by wip/whole/gen_tShape.py) ===== -/
def gr (x : Int32) : Int32 := 1 <<< (x &&& 31) - 1
def chOf (x : Int32) : Int32 := if x = 2 then 3 else if x = 4 then 2 else if x = 6 then 4 else 1
abbrev bitsOk (b k : Int32) : Prop := ((k = 0 ∨ k = 3) ∧ (b = 1 ∨ b = 2 ∨ b = 4 ∨ b = 8)) ∨ ((k = 2 ∨ k = 4 ∨ k = 6) ∧ b = 8)
abbrev okHead (w h b k : Int32) : Prop := (1 ≤ w ∧ w ≤ 12) ∧ (1 ≤ h ∧ h ≤ 12) ∧ bitsOk b k
def ltr (x y : Int32) : Int32 := u4 x (24 - 8 * y) &&& 255
abbrev isLet (x : Int32) : Prop := (65 ≤ x ∧ x ≤ 90) ∨ (97 ≤ x ∧ x ≤ 122)
abbrev letsOk (x : Int32) : Prop := isLet (ltr x 0) ∧ isLet (ltr x 1) ∧ (65 ≤ ltr x 2 ∧ ltr x 2 ≤ 90) ∧ isLet (ltr x 3)
abbrev exOk (x : Int32) : Prop := letsOk x ∧ ¬ (65 ≤ ltr x 0 ∧ ltr x 0 ≤ 90) ∧ x ≠ 1732332865 ∧ x ≠ 1934772034 ∧ x ≠ 1883789683 ∧ x ≠ 1951551059
set_option maxHeartbeats 4000000 in
theorem c_Shape_sideMayBe {E : pmEv} {h : pmH} {z : Option Nat} {x : Int32} : Call E mShape_sideMayBe [.int x] h z 0 0 (Ret (some (.int (bI (1 ≤ x ∧ x ≤ 12)))) (h, z, false)) := by
  refine call_of (L := [some (.int x)]) ok_mShape_sideMayBe (Nat.le_of_ble_eq_true rfl) ?_
  refine go_iload_n dShape_sideMayBe_0 rfl ?_
  refine go_iconst (v := 1) dShape_sideMayBe_1 (by decide) ?_
  refine go_icmp_lt (tgt := 15) dShape_sideMayBe_2 (fun c1 => ?_) (fun c1 => ?_)
  · refine go_iconst (v := 0) dShape_sideMayBe_15 (by decide) ?_
    refine go_iret dShape_sideMayBe_16 rfl rfl ?_ (Nat.le_of_ble_eq_true rfl) (Nat.le_of_ble_eq_true rfl)
    first | (refine ret_bt ?_; simp_all [i_lt, -Int32.not_lt, -Int32.not_le]; done) | (refine ret_bf ?_; simp_all [i_lt, -Int32.not_lt, -Int32.not_le]; done)
  · refine go_iload_n dShape_sideMayBe_5 rfl ?_
    refine go_bipush (v := 12) dShape_sideMayBe_6 (by decide) ?_
    refine go_icmp_gt (tgt := 15) dShape_sideMayBe_8 (fun c2 => ?_) (fun c2 => ?_)
    · refine go_iconst (v := 0) dShape_sideMayBe_15 (by decide) ?_
      refine go_iret dShape_sideMayBe_16 rfl rfl ?_ (Nat.le_of_ble_eq_true rfl) (Nat.le_of_ble_eq_true rfl)
      first | (refine ret_bt ?_; simp_all [i_lt, -Int32.not_lt, -Int32.not_le]; done) | (refine ret_bf ?_; simp_all [i_lt, -Int32.not_lt, -Int32.not_le]; done)
    · refine go_iconst (v := 1) dShape_sideMayBe_11 (by decide) ?_
      refine go_goto (tgt := 16) dShape_sideMayBe_12 ?_
      refine go_iret dShape_sideMayBe_16 rfl rfl ?_ (Nat.le_of_ble_eq_true rfl) (Nat.le_of_ble_eq_true rfl)
      first | (refine ret_bt ?_; simp_all [i_lt, -Int32.not_lt, -Int32.not_le]; done) | (refine ret_bf ?_; simp_all [i_lt, -Int32.not_lt, -Int32.not_le]; done)
set_option maxHeartbeats 4000000 in
theorem c_Shape_greatest {E : pmEv} {h : pmH} {z : Option Nat} {x : Int32} : Call E mShape_greatest [.int x] h z 0 0 (Ret (some (.int (gr x))) (h, z, false)) := by
  refine call_of (L := [some (.int x)]) ok_mShape_greatest (Nat.le_of_ble_eq_true rfl) ?_
  refine go_iconst (v := 1) dShape_greatest_0 (by decide) ?_
  refine go_iload_n dShape_greatest_1 rfl ?_
  refine go_ishl dShape_greatest_2 ?_
  refine go_iconst (v := 1) dShape_greatest_3 (by decide) ?_
  refine go_isub dShape_greatest_4 ?_
  refine go_iret dShape_greatest_5 rfl rfl ?_ (Nat.le_of_ble_eq_true rfl) (Nat.le_of_ble_eq_true rfl)
  exact ret_v
set_option maxHeartbeats 4000000 in
theorem c_Shape_channelsOf {E : pmEv} {h : pmH} {z : Option Nat} {x : Int32} : Call E mShape_channelsOf [.int x] h z 0 0 (Ret (some (.int (chOf x))) (h, z, false)) := by
  refine call_of (L := [some (.int x)]) ok_mShape_channelsOf (Nat.le_of_ble_eq_true rfl) ?_
  refine go_iload_n dShape_channelsOf_0 rfl ?_
  refine go_by (2) (fun s1 => ?_) (fun s1 => ?_)
  · refine go_tableIn (tgt := 36) (off := 35) dShape_channelsOf_1 (by decide) (by decide) (by decide) ?_
    refine go_iconst (v := 3) dShape_channelsOf_36 (by decide) ?_
    refine go_iret dShape_channelsOf_37 rfl rfl ?_ (Nat.le_of_ble_eq_true rfl) (Nat.le_of_ble_eq_true rfl)
    exact ret_e (by simp_all [chOf])
  refine go_by (3) (fun s2 => ?_) (fun s2 => ?_)
  · refine go_tableIn (tgt := 42) (off := 41) dShape_channelsOf_1 (by decide) (by decide) (by decide) ?_
    refine go_iconst (v := 1) dShape_channelsOf_42 (by decide) ?_
    refine go_iret dShape_channelsOf_43 rfl rfl ?_ (Nat.le_of_ble_eq_true rfl) (Nat.le_of_ble_eq_true rfl)
    exact ret_e (by simp_all [chOf])
  refine go_by (4) (fun s3 => ?_) (fun s3 => ?_)
  · refine go_tableIn (tgt := 38) (off := 37) dShape_channelsOf_1 (by decide) (by decide) (by decide) ?_
    refine go_iconst (v := 2) dShape_channelsOf_38 (by decide) ?_
    refine go_iret dShape_channelsOf_39 rfl rfl ?_ (Nat.le_of_ble_eq_true rfl) (Nat.le_of_ble_eq_true rfl)
    exact ret_e (by simp_all [chOf])
  refine go_by (5) (fun s4 => ?_) (fun s4 => ?_)
  · refine go_tableIn (tgt := 42) (off := 41) dShape_channelsOf_1 (by decide) (by decide) (by decide) ?_
    refine go_iconst (v := 1) dShape_channelsOf_42 (by decide) ?_
    refine go_iret dShape_channelsOf_43 rfl rfl ?_ (Nat.le_of_ble_eq_true rfl) (Nat.le_of_ble_eq_true rfl)
    exact ret_e (by simp_all [chOf])
  refine go_by (6) (fun s5 => ?_) (fun s5 => ?_)
  · refine go_tableIn (tgt := 40) (off := 39) dShape_channelsOf_1 (by decide) (by decide) (by decide) ?_
    refine go_iconst (v := 4) dShape_channelsOf_40 (by decide) ?_
    refine go_iret dShape_channelsOf_41 rfl rfl ?_ (Nat.le_of_ble_eq_true rfl) (Nat.le_of_ble_eq_true rfl)
    exact ret_e (by simp_all [chOf])
  refine go_tableOut (tgt := 42) dShape_channelsOf_1 (by have a0 := lv_neT s1 (a := 2) (by decide); have a1 := lv_neT s2 (a := 3) (by decide); have a2 := lv_neT s3 (a := 4) (by decide); have a3 := lv_neT s4 (a := 5) (by decide); have a4 := lv_neT s5 (a := 6) (by decide); omega) ?_
  refine go_iconst (v := 1) dShape_channelsOf_42 (by decide) ?_
  refine go_iret dShape_channelsOf_43 rfl rfl ?_ (Nat.le_of_ble_eq_true rfl) (Nat.le_of_ble_eq_true rfl)
  exact ret_e (by simp_all [chOf])
set_option maxHeartbeats 4000000 in
theorem c_Shape_bitsMayBe {E : pmEv} {h : pmH} {z : Option Nat} {x y : Int32} : Call E mShape_bitsMayBe [.int x, .int y] h z 0 0 (Ret (some (.int (bI (bitsOk x y)))) (h, z, false)) := by
  refine call_of (L := [some (.int x), some (.int y)]) ok_mShape_bitsMayBe (Nat.le_of_ble_eq_true rfl) ?_
  refine go_iload_n dShape_bitsMayBe_0 rfl ?_
  refine go_by (0) (fun s1 => ?_) (fun s1 => ?_)
  · refine go_tableIn (tgt := 44) (off := 43) dShape_bitsMayBe_1 (by decide) (by decide) (by decide) ?_
    refine go_iload_n dShape_bitsMayBe_44 rfl ?_
    refine go_iconst (v := 1) dShape_bitsMayBe_45 (by decide) ?_
    refine go_icmp_eq (tgt := 65) dShape_bitsMayBe_46 (fun c2 => ?_) (fun c2 => ?_)
    · refine go_iconst (v := 1) dShape_bitsMayBe_65 (by decide) ?_
      refine go_goto (tgt := 70) dShape_bitsMayBe_66 ?_
      refine go_iret dShape_bitsMayBe_70 rfl rfl ?_ (Nat.le_of_ble_eq_true rfl) (Nat.le_of_ble_eq_true rfl)
      first | (refine ret_bt ?_; simp_all [bitsOk]; done) | (refine ret_bf ?_; simp_all [bitsOk]; done)
    · refine go_iload_n dShape_bitsMayBe_49 rfl ?_
      refine go_iconst (v := 2) dShape_bitsMayBe_50 (by decide) ?_
      refine go_icmp_eq (tgt := 65) dShape_bitsMayBe_51 (fun c3 => ?_) (fun c3 => ?_)
      · refine go_iconst (v := 1) dShape_bitsMayBe_65 (by decide) ?_
        refine go_goto (tgt := 70) dShape_bitsMayBe_66 ?_
        refine go_iret dShape_bitsMayBe_70 rfl rfl ?_ (Nat.le_of_ble_eq_true rfl) (Nat.le_of_ble_eq_true rfl)
        first | (refine ret_bt ?_; simp_all [bitsOk]; done) | (refine ret_bf ?_; simp_all [bitsOk]; done)
      · refine go_iload_n dShape_bitsMayBe_54 rfl ?_
        refine go_iconst (v := 4) dShape_bitsMayBe_55 (by decide) ?_
        refine go_icmp_eq (tgt := 65) dShape_bitsMayBe_56 (fun c4 => ?_) (fun c4 => ?_)
        · refine go_iconst (v := 1) dShape_bitsMayBe_65 (by decide) ?_
          refine go_goto (tgt := 70) dShape_bitsMayBe_66 ?_
          refine go_iret dShape_bitsMayBe_70 rfl rfl ?_ (Nat.le_of_ble_eq_true rfl) (Nat.le_of_ble_eq_true rfl)
          first | (refine ret_bt ?_; simp_all [bitsOk]; done) | (refine ret_bf ?_; simp_all [bitsOk]; done)
        · refine go_iload_n dShape_bitsMayBe_59 rfl ?_
          refine go_bipush (v := 8) dShape_bitsMayBe_60 (by decide) ?_
          refine go_icmp_ne (tgt := 69) dShape_bitsMayBe_62 (fun c5 => ?_) (fun c5 => ?_)
          · refine go_iconst (v := 0) dShape_bitsMayBe_69 (by decide) ?_
            refine go_iret dShape_bitsMayBe_70 rfl rfl ?_ (Nat.le_of_ble_eq_true rfl) (Nat.le_of_ble_eq_true rfl)
            first | (refine ret_bt ?_; simp_all [bitsOk]; done) | (refine ret_bf ?_; simp_all [bitsOk]; done)
          · refine go_iconst (v := 1) dShape_bitsMayBe_65 (by decide) ?_
            refine go_goto (tgt := 70) dShape_bitsMayBe_66 ?_
            refine go_iret dShape_bitsMayBe_70 rfl rfl ?_ (Nat.le_of_ble_eq_true rfl) (Nat.le_of_ble_eq_true rfl)
            first | (refine ret_bt ?_; simp_all [bitsOk]; done) | (refine ret_bf ?_; simp_all [bitsOk]; done)
  refine go_by (1) (fun s6 => ?_) (fun s6 => ?_)
  · refine go_tableIn (tgt := 83) (off := 82) dShape_bitsMayBe_1 (by decide) (by decide) (by decide) ?_
    refine go_iconst (v := 0) dShape_bitsMayBe_83 (by decide) ?_
    refine go_iret dShape_bitsMayBe_84 rfl rfl ?_ (Nat.le_of_ble_eq_true rfl) (Nat.le_of_ble_eq_true rfl)
    first | (refine ret_bt ?_; simp_all [bitsOk]; done) | (refine ret_bf ?_; simp_all [bitsOk]; done)
  refine go_by (2) (fun s7 => ?_) (fun s7 => ?_)
  · refine go_tableIn (tgt := 71) (off := 70) dShape_bitsMayBe_1 (by decide) (by decide) (by decide) ?_
    refine go_iload_n dShape_bitsMayBe_71 rfl ?_
    refine go_bipush (v := 8) dShape_bitsMayBe_72 (by decide) ?_
    refine go_icmp_ne (tgt := 81) dShape_bitsMayBe_74 (fun c8 => ?_) (fun c8 => ?_)
    · refine go_iconst (v := 0) dShape_bitsMayBe_81 (by decide) ?_
      refine go_iret dShape_bitsMayBe_82 rfl rfl ?_ (Nat.le_of_ble_eq_true rfl) (Nat.le_of_ble_eq_true rfl)
      first | (refine ret_bt ?_; simp_all [bitsOk]; done) | (refine ret_bf ?_; simp_all [bitsOk]; done)
    · refine go_iconst (v := 1) dShape_bitsMayBe_77 (by decide) ?_
      refine go_goto (tgt := 82) dShape_bitsMayBe_78 ?_
      refine go_iret dShape_bitsMayBe_82 rfl rfl ?_ (Nat.le_of_ble_eq_true rfl) (Nat.le_of_ble_eq_true rfl)
      first | (refine ret_bt ?_; simp_all [bitsOk]; done) | (refine ret_bf ?_; simp_all [bitsOk]; done)
  refine go_by (3) (fun s9 => ?_) (fun s9 => ?_)
  · refine go_tableIn (tgt := 44) (off := 43) dShape_bitsMayBe_1 (by decide) (by decide) (by decide) ?_
    refine go_iload_n dShape_bitsMayBe_44 rfl ?_
    refine go_iconst (v := 1) dShape_bitsMayBe_45 (by decide) ?_
    refine go_icmp_eq (tgt := 65) dShape_bitsMayBe_46 (fun c10 => ?_) (fun c10 => ?_)
    · refine go_iconst (v := 1) dShape_bitsMayBe_65 (by decide) ?_
      refine go_goto (tgt := 70) dShape_bitsMayBe_66 ?_
      refine go_iret dShape_bitsMayBe_70 rfl rfl ?_ (Nat.le_of_ble_eq_true rfl) (Nat.le_of_ble_eq_true rfl)
      first | (refine ret_bt ?_; simp_all [bitsOk]; done) | (refine ret_bf ?_; simp_all [bitsOk]; done)
    · refine go_iload_n dShape_bitsMayBe_49 rfl ?_
      refine go_iconst (v := 2) dShape_bitsMayBe_50 (by decide) ?_
      refine go_icmp_eq (tgt := 65) dShape_bitsMayBe_51 (fun c11 => ?_) (fun c11 => ?_)
      · refine go_iconst (v := 1) dShape_bitsMayBe_65 (by decide) ?_
        refine go_goto (tgt := 70) dShape_bitsMayBe_66 ?_
        refine go_iret dShape_bitsMayBe_70 rfl rfl ?_ (Nat.le_of_ble_eq_true rfl) (Nat.le_of_ble_eq_true rfl)
        first | (refine ret_bt ?_; simp_all [bitsOk]; done) | (refine ret_bf ?_; simp_all [bitsOk]; done)
      · refine go_iload_n dShape_bitsMayBe_54 rfl ?_
        refine go_iconst (v := 4) dShape_bitsMayBe_55 (by decide) ?_
        refine go_icmp_eq (tgt := 65) dShape_bitsMayBe_56 (fun c12 => ?_) (fun c12 => ?_)
        · refine go_iconst (v := 1) dShape_bitsMayBe_65 (by decide) ?_
          refine go_goto (tgt := 70) dShape_bitsMayBe_66 ?_
          refine go_iret dShape_bitsMayBe_70 rfl rfl ?_ (Nat.le_of_ble_eq_true rfl) (Nat.le_of_ble_eq_true rfl)
          first | (refine ret_bt ?_; simp_all [bitsOk]; done) | (refine ret_bf ?_; simp_all [bitsOk]; done)
        · refine go_iload_n dShape_bitsMayBe_59 rfl ?_
          refine go_bipush (v := 8) dShape_bitsMayBe_60 (by decide) ?_
          refine go_icmp_ne (tgt := 69) dShape_bitsMayBe_62 (fun c13 => ?_) (fun c13 => ?_)
          · refine go_iconst (v := 0) dShape_bitsMayBe_69 (by decide) ?_
            refine go_iret dShape_bitsMayBe_70 rfl rfl ?_ (Nat.le_of_ble_eq_true rfl) (Nat.le_of_ble_eq_true rfl)
            first | (refine ret_bt ?_; simp_all [bitsOk]; done) | (refine ret_bf ?_; simp_all [bitsOk]; done)
          · refine go_iconst (v := 1) dShape_bitsMayBe_65 (by decide) ?_
            refine go_goto (tgt := 70) dShape_bitsMayBe_66 ?_
            refine go_iret dShape_bitsMayBe_70 rfl rfl ?_ (Nat.le_of_ble_eq_true rfl) (Nat.le_of_ble_eq_true rfl)
            first | (refine ret_bt ?_; simp_all [bitsOk]; done) | (refine ret_bf ?_; simp_all [bitsOk]; done)
  refine go_by (4) (fun s14 => ?_) (fun s14 => ?_)
  · refine go_tableIn (tgt := 71) (off := 70) dShape_bitsMayBe_1 (by decide) (by decide) (by decide) ?_
    refine go_iload_n dShape_bitsMayBe_71 rfl ?_
    refine go_bipush (v := 8) dShape_bitsMayBe_72 (by decide) ?_
    refine go_icmp_ne (tgt := 81) dShape_bitsMayBe_74 (fun c15 => ?_) (fun c15 => ?_)
    · refine go_iconst (v := 0) dShape_bitsMayBe_81 (by decide) ?_
      refine go_iret dShape_bitsMayBe_82 rfl rfl ?_ (Nat.le_of_ble_eq_true rfl) (Nat.le_of_ble_eq_true rfl)
      first | (refine ret_bt ?_; simp_all [bitsOk]; done) | (refine ret_bf ?_; simp_all [bitsOk]; done)
    · refine go_iconst (v := 1) dShape_bitsMayBe_77 (by decide) ?_
      refine go_goto (tgt := 82) dShape_bitsMayBe_78 ?_
      refine go_iret dShape_bitsMayBe_82 rfl rfl ?_ (Nat.le_of_ble_eq_true rfl) (Nat.le_of_ble_eq_true rfl)
      first | (refine ret_bt ?_; simp_all [bitsOk]; done) | (refine ret_bf ?_; simp_all [bitsOk]; done)
  refine go_by (5) (fun s16 => ?_) (fun s16 => ?_)
  · refine go_tableIn (tgt := 83) (off := 82) dShape_bitsMayBe_1 (by decide) (by decide) (by decide) ?_
    refine go_iconst (v := 0) dShape_bitsMayBe_83 (by decide) ?_
    refine go_iret dShape_bitsMayBe_84 rfl rfl ?_ (Nat.le_of_ble_eq_true rfl) (Nat.le_of_ble_eq_true rfl)
    first | (refine ret_bt ?_; simp_all [bitsOk]; done) | (refine ret_bf ?_; simp_all [bitsOk]; done)
  refine go_by (6) (fun s17 => ?_) (fun s17 => ?_)
  · refine go_tableIn (tgt := 71) (off := 70) dShape_bitsMayBe_1 (by decide) (by decide) (by decide) ?_
    refine go_iload_n dShape_bitsMayBe_71 rfl ?_
    refine go_bipush (v := 8) dShape_bitsMayBe_72 (by decide) ?_
    refine go_icmp_ne (tgt := 81) dShape_bitsMayBe_74 (fun c18 => ?_) (fun c18 => ?_)
    · refine go_iconst (v := 0) dShape_bitsMayBe_81 (by decide) ?_
      refine go_iret dShape_bitsMayBe_82 rfl rfl ?_ (Nat.le_of_ble_eq_true rfl) (Nat.le_of_ble_eq_true rfl)
      first | (refine ret_bt ?_; simp_all [bitsOk]; done) | (refine ret_bf ?_; simp_all [bitsOk]; done)
    · refine go_iconst (v := 1) dShape_bitsMayBe_77 (by decide) ?_
      refine go_goto (tgt := 82) dShape_bitsMayBe_78 ?_
      refine go_iret dShape_bitsMayBe_82 rfl rfl ?_ (Nat.le_of_ble_eq_true rfl) (Nat.le_of_ble_eq_true rfl)
      first | (refine ret_bt ?_; simp_all [bitsOk]; done) | (refine ret_bf ?_; simp_all [bitsOk]; done)
  refine go_tableOut (tgt := 83) dShape_bitsMayBe_1 (by have a0 := lv_neT s1 (a := 0) (by decide); have a1 := lv_neT s6 (a := 1) (by decide); have a2 := lv_neT s7 (a := 2) (by decide); have a3 := lv_neT s9 (a := 3) (by decide); have a4 := lv_neT s14 (a := 4) (by decide); have a5 := lv_neT s16 (a := 5) (by decide); have a6 := lv_neT s17 (a := 6) (by decide); omega) ?_
  refine go_iconst (v := 0) dShape_bitsMayBe_83 (by decide) ?_
  refine go_iret dShape_bitsMayBe_84 rfl rfl ?_ (Nat.le_of_ble_eq_true rfl) (Nat.le_of_ble_eq_true rfl)
  first | (refine ret_bt ?_; simp_all [bitsOk]; done) | (refine ret_bf ?_; simp_all [bitsOk]; done)
set_option maxHeartbeats 4000000 in
theorem c_Shape_mayBe {E : pmEv} {h : pmH} {z : Option Nat} {x y u v : Int32} : Call E mShape_mayBe [.int x, .int y, .int u, .int v] h z 0 0 (Ret (some (.int (bI (okHead x y u v)))) (h, z, false)) := by
  refine call_of (L := [some (.int x), some (.int y), some (.int u), some (.int v)]) ok_mShape_mayBe (Nat.le_of_ble_eq_true rfl) ?_
  refine go_iload_n dShape_mayBe_0 rfl ?_
  refine go_statR dShape_mayBe_1 ok_mShape_sideMayBe st_mShape_sideMayBe qm_Shape_7 c_Shape_sideMayBe ?_ (hnp := np_mShape_sideMayBe)
  refine go_ifeq_b (tgt := 26) dShape_mayBe_4 (fun c1 => ?_) (fun c1 => ?_)
  · refine go_iconst (v := 0) dShape_mayBe_26 (by decide) ?_
    refine go_iret dShape_mayBe_27 rfl rfl ?_ (Nat.le_of_ble_eq_true rfl) (Nat.le_of_ble_eq_true rfl)
    first | (refine ret_bt ?_; grind) | (refine ret_bf ?_; grind)
  · refine go_iload_n dShape_mayBe_7 rfl ?_
    refine go_statR dShape_mayBe_8 ok_mShape_sideMayBe st_mShape_sideMayBe qm_Shape_7 c_Shape_sideMayBe ?_ (hnp := np_mShape_sideMayBe)
    refine go_ifeq_b (tgt := 26) dShape_mayBe_11 (fun c2 => ?_) (fun c2 => ?_)
    · refine go_iconst (v := 0) dShape_mayBe_26 (by decide) ?_
      refine go_iret dShape_mayBe_27 rfl rfl ?_ (Nat.le_of_ble_eq_true rfl) (Nat.le_of_ble_eq_true rfl)
      first | (refine ret_bt ?_; grind) | (refine ret_bf ?_; grind)
    · refine go_iload_n dShape_mayBe_14 rfl ?_
      refine go_iload_n dShape_mayBe_15 rfl ?_
      refine go_statR dShape_mayBe_16 ok_mShape_bitsMayBe st_mShape_bitsMayBe qm_Shape_13 c_Shape_bitsMayBe ?_ (hnp := np_mShape_bitsMayBe)
      refine go_ifeq_b (tgt := 26) dShape_mayBe_19 (fun c3 => ?_) (fun c3 => ?_)
      · refine go_iconst (v := 0) dShape_mayBe_26 (by decide) ?_
        refine go_iret dShape_mayBe_27 rfl rfl ?_ (Nat.le_of_ble_eq_true rfl) (Nat.le_of_ble_eq_true rfl)
        first | (refine ret_bt ?_; grind) | (refine ret_bf ?_; grind)
      · refine go_iconst (v := 1) dShape_mayBe_22 (by decide) ?_
        refine go_goto (tgt := 27) dShape_mayBe_23 ?_
        refine go_iret dShape_mayBe_27 rfl rfl ?_ (Nat.le_of_ble_eq_true rfl) (Nat.le_of_ble_eq_true rfl)
        first | (refine ret_bt ?_; grind) | (refine ret_bf ?_; grind)
set_option maxHeartbeats 4000000 in
theorem c_Letters_letter {E : pmEv} {h : pmH} {z : Option Nat} {x y : Int32} : Call E mLetters_letter [.int x, .int y] h z 0 0 (Ret (some (.int (ltr x y))) (h, z, false)) := by
  refine call_of (L := [some (.int x), some (.int y)]) ok_mLetters_letter (Nat.le_of_ble_eq_true rfl) ?_
  refine go_iload_n dLetters_letter_0 rfl ?_
  refine go_bipush (v := 24) dLetters_letter_1 (by decide) ?_
  refine go_bipush (v := 8) dLetters_letter_3 (by decide) ?_
  refine go_iload_n dLetters_letter_5 rfl ?_
  refine go_imul dLetters_letter_6 ?_
  refine go_isub dLetters_letter_7 ?_
  refine go_iushr dLetters_letter_8 ?_
  refine go_sipush (v := 255) dLetters_letter_9 (by decide) ?_
  refine go_iand dLetters_letter_12 ?_
  refine go_iret dLetters_letter_13 rfl rfl ?_ (Nat.le_of_ble_eq_true rfl) (Nat.le_of_ble_eq_true rfl)
  exact ret_v
set_option maxHeartbeats 4000000 in
theorem c_Letters_isGreat {E : pmEv} {h : pmH} {z : Option Nat} {x : Int32} : Call E mLetters_isGreat [.int x] h z 0 0 (Ret (some (.int (bI (65 ≤ x ∧ x ≤ 90)))) (h, z, false)) := by
  refine call_of (L := [some (.int x)]) ok_mLetters_isGreat (Nat.le_of_ble_eq_true rfl) ?_
  refine go_iload_n dLetters_isGreat_0 rfl ?_
  refine go_bipush (v := 65) dLetters_isGreat_1 (by decide) ?_
  refine go_icmp_lt (tgt := 16) dLetters_isGreat_3 (fun c1 => ?_) (fun c1 => ?_)
  · refine go_iconst (v := 0) dLetters_isGreat_16 (by decide) ?_
    refine go_iret dLetters_isGreat_17 rfl rfl ?_ (Nat.le_of_ble_eq_true rfl) (Nat.le_of_ble_eq_true rfl)
    first | (refine ret_bt ?_; simp_all [i_lt, -Int32.not_lt, -Int32.not_le]; done) | (refine ret_bf ?_; simp_all [i_lt, -Int32.not_lt, -Int32.not_le]; done)
  · refine go_iload_n dLetters_isGreat_6 rfl ?_
    refine go_bipush (v := 90) dLetters_isGreat_7 (by decide) ?_
    refine go_icmp_gt (tgt := 16) dLetters_isGreat_9 (fun c2 => ?_) (fun c2 => ?_)
    · refine go_iconst (v := 0) dLetters_isGreat_16 (by decide) ?_
      refine go_iret dLetters_isGreat_17 rfl rfl ?_ (Nat.le_of_ble_eq_true rfl) (Nat.le_of_ble_eq_true rfl)
      first | (refine ret_bt ?_; simp_all [i_lt, -Int32.not_lt, -Int32.not_le]; done) | (refine ret_bf ?_; simp_all [i_lt, -Int32.not_lt, -Int32.not_le]; done)
    · refine go_iconst (v := 1) dLetters_isGreat_12 (by decide) ?_
      refine go_goto (tgt := 17) dLetters_isGreat_13 ?_
      refine go_iret dLetters_isGreat_17 rfl rfl ?_ (Nat.le_of_ble_eq_true rfl) (Nat.le_of_ble_eq_true rfl)
      first | (refine ret_bt ?_; simp_all [i_lt, -Int32.not_lt, -Int32.not_le]; done) | (refine ret_bf ?_; simp_all [i_lt, -Int32.not_lt, -Int32.not_le]; done)
set_option maxHeartbeats 4000000 in
theorem c_Letters_isLetter {E : pmEv} {h : pmH} {z : Option Nat} {x : Int32} : Call E mLetters_isLetter [.int x] h z 0 0 (Ret (some (.int (bI (isLet x)))) (h, z, false)) := by
  refine call_of (L := [some (.int x)]) ok_mLetters_isLetter (Nat.le_of_ble_eq_true rfl) ?_
  refine go_iload_n dLetters_isLetter_0 rfl ?_
  refine go_statR dLetters_isLetter_1 ok_mLetters_isGreat st_mLetters_isGreat qm_Letters_17 c_Letters_isGreat ?_ (hnp := np_mLetters_isGreat)
  refine go_ifne_b (tgt := 19) dLetters_isLetter_4 (fun c1 => ?_) (fun c1 => ?_)
  · refine go_iconst (v := 1) dLetters_isLetter_19 (by decide) ?_
    refine go_goto (tgt := 24) dLetters_isLetter_20 ?_
    refine go_iret dLetters_isLetter_24 rfl rfl ?_ (Nat.le_of_ble_eq_true rfl) (Nat.le_of_ble_eq_true rfl)
    first | (refine ret_bt ?_; simp_all [isLet, i_lt, -Int32.not_lt, -Int32.not_le]; done) | (refine ret_bf ?_; simp_all [isLet, i_lt, -Int32.not_lt, -Int32.not_le]; done)
  · refine go_iload_n dLetters_isLetter_7 rfl ?_
    refine go_bipush (v := 97) dLetters_isLetter_8 (by decide) ?_
    refine go_icmp_lt (tgt := 23) dLetters_isLetter_10 (fun c2 => ?_) (fun c2 => ?_)
    · refine go_iconst (v := 0) dLetters_isLetter_23 (by decide) ?_
      refine go_iret dLetters_isLetter_24 rfl rfl ?_ (Nat.le_of_ble_eq_true rfl) (Nat.le_of_ble_eq_true rfl)
      first | (refine ret_bt ?_; simp_all [isLet, i_lt, -Int32.not_lt, -Int32.not_le]; done) | (refine ret_bf ?_; simp_all [isLet, i_lt, -Int32.not_lt, -Int32.not_le]; done)
    · refine go_iload_n dLetters_isLetter_13 rfl ?_
      refine go_bipush (v := 122) dLetters_isLetter_14 (by decide) ?_
      refine go_icmp_gt (tgt := 23) dLetters_isLetter_16 (fun c3 => ?_) (fun c3 => ?_)
      · refine go_iconst (v := 0) dLetters_isLetter_23 (by decide) ?_
        refine go_iret dLetters_isLetter_24 rfl rfl ?_ (Nat.le_of_ble_eq_true rfl) (Nat.le_of_ble_eq_true rfl)
        first | (refine ret_bt ?_; simp_all [isLet, i_lt, -Int32.not_lt, -Int32.not_le]; done) | (refine ret_bf ?_; simp_all [isLet, i_lt, -Int32.not_lt, -Int32.not_le]; done)
      · refine go_iconst (v := 1) dLetters_isLetter_19 (by decide) ?_
        refine go_goto (tgt := 24) dLetters_isLetter_20 ?_
        refine go_iret dLetters_isLetter_24 rfl rfl ?_ (Nat.le_of_ble_eq_true rfl) (Nat.le_of_ble_eq_true rfl)
        first | (refine ret_bt ?_; simp_all [isLet, i_lt, -Int32.not_lt, -Int32.not_le]; done) | (refine ret_bf ?_; simp_all [isLet, i_lt, -Int32.not_lt, -Int32.not_le]; done)
set_option maxHeartbeats 4000000 in
theorem c_Letters_mayBe {E : pmEv} {h : pmH} {z : Option Nat} {x : Int32} : Call E mLetters_mayBe [.int x] h z 0 0 (Ret (some (.int (bI (letsOk x)))) (h, z, false)) := by
  refine call_of (L := [some (.int x)]) ok_mLetters_mayBe (Nat.le_of_ble_eq_true rfl) ?_
  refine go_iload_n dLetters_mayBe_0 rfl ?_
  refine go_iconst (v := 0) dLetters_mayBe_1 (by decide) ?_
  refine go_statR dLetters_mayBe_2 ok_mLetters_letter st_mLetters_letter qm_Letters_7 c_Letters_letter ?_ (hnp := np_mLetters_letter)
  refine go_statR dLetters_mayBe_5 ok_mLetters_isLetter st_mLetters_isLetter qm_Letters_13 c_Letters_isLetter ?_ (hnp := np_mLetters_isLetter)
  refine go_ifeq_b (tgt := 48) dLetters_mayBe_8 (fun c1 => ?_) (fun c1 => ?_)
  · refine go_iconst (v := 0) dLetters_mayBe_48 (by decide) ?_
    refine go_iret dLetters_mayBe_49 rfl rfl ?_ (Nat.le_of_ble_eq_true rfl) (Nat.le_of_ble_eq_true rfl)
    first | (refine ret_bt ?_; grind) | (refine ret_bf ?_; grind)
  · refine go_iload_n dLetters_mayBe_11 rfl ?_
    refine go_iconst (v := 1) dLetters_mayBe_12 (by decide) ?_
    refine go_statR dLetters_mayBe_13 ok_mLetters_letter st_mLetters_letter qm_Letters_7 c_Letters_letter ?_ (hnp := np_mLetters_letter)
    refine go_statR dLetters_mayBe_16 ok_mLetters_isLetter st_mLetters_isLetter qm_Letters_13 c_Letters_isLetter ?_ (hnp := np_mLetters_isLetter)
    refine go_ifeq_b (tgt := 48) dLetters_mayBe_19 (fun c2 => ?_) (fun c2 => ?_)
    · refine go_iconst (v := 0) dLetters_mayBe_48 (by decide) ?_
      refine go_iret dLetters_mayBe_49 rfl rfl ?_ (Nat.le_of_ble_eq_true rfl) (Nat.le_of_ble_eq_true rfl)
      first | (refine ret_bt ?_; grind) | (refine ret_bf ?_; grind)
    · refine go_iload_n dLetters_mayBe_22 rfl ?_
      refine go_iconst (v := 2) dLetters_mayBe_23 (by decide) ?_
      refine go_statR dLetters_mayBe_24 ok_mLetters_letter st_mLetters_letter qm_Letters_7 c_Letters_letter ?_ (hnp := np_mLetters_letter)
      refine go_statR dLetters_mayBe_27 ok_mLetters_isGreat st_mLetters_isGreat qm_Letters_17 c_Letters_isGreat ?_ (hnp := np_mLetters_isGreat)
      refine go_ifeq_b (tgt := 48) dLetters_mayBe_30 (fun c3 => ?_) (fun c3 => ?_)
      · refine go_iconst (v := 0) dLetters_mayBe_48 (by decide) ?_
        refine go_iret dLetters_mayBe_49 rfl rfl ?_ (Nat.le_of_ble_eq_true rfl) (Nat.le_of_ble_eq_true rfl)
        first | (refine ret_bt ?_; grind) | (refine ret_bf ?_; grind)
      · refine go_iload_n dLetters_mayBe_33 rfl ?_
        refine go_iconst (v := 3) dLetters_mayBe_34 (by decide) ?_
        refine go_statR dLetters_mayBe_35 ok_mLetters_letter st_mLetters_letter qm_Letters_7 c_Letters_letter ?_ (hnp := np_mLetters_letter)
        refine go_statR dLetters_mayBe_38 ok_mLetters_isLetter st_mLetters_isLetter qm_Letters_13 c_Letters_isLetter ?_ (hnp := np_mLetters_isLetter)
        refine go_ifeq_b (tgt := 48) dLetters_mayBe_41 (fun c4 => ?_) (fun c4 => ?_)
        · refine go_iconst (v := 0) dLetters_mayBe_48 (by decide) ?_
          refine go_iret dLetters_mayBe_49 rfl rfl ?_ (Nat.le_of_ble_eq_true rfl) (Nat.le_of_ble_eq_true rfl)
          first | (refine ret_bt ?_; grind) | (refine ret_bf ?_; grind)
        · refine go_iconst (v := 1) dLetters_mayBe_44 (by decide) ?_
          refine go_goto (tgt := 49) dLetters_mayBe_45 ?_
          refine go_iret dLetters_mayBe_49 rfl rfl ?_ (Nat.le_of_ble_eq_true rfl) (Nat.le_of_ble_eq_true rfl)
          first | (refine ret_bt ?_; grind) | (refine ret_bf ?_; grind)
set_option maxHeartbeats 4000000 in
theorem c_Letters_firstIsGreat {E : pmEv} {h : pmH} {z : Option Nat} {x : Int32} : Call E mLetters_firstIsGreat [.int x] h z 0 0 (Ret (some (.int (bI (65 ≤ ltr x 0 ∧ ltr x 0 ≤ 90)))) (h, z, false)) := by
  refine call_of (L := [some (.int x)]) ok_mLetters_firstIsGreat (Nat.le_of_ble_eq_true rfl) ?_
  refine go_iload_n dLetters_firstIsGreat_0 rfl ?_
  refine go_iconst (v := 0) dLetters_firstIsGreat_1 (by decide) ?_
  refine go_statR dLetters_firstIsGreat_2 ok_mLetters_letter st_mLetters_letter qm_Letters_7 c_Letters_letter ?_ (hnp := np_mLetters_letter)
  refine go_statR dLetters_firstIsGreat_5 ok_mLetters_isGreat st_mLetters_isGreat qm_Letters_17 c_Letters_isGreat ?_ (hnp := np_mLetters_isGreat)
  refine go_iret dLetters_firstIsGreat_8 rfl bI_n ?_ (Nat.le_of_ble_eq_true rfl) (Nat.le_of_ble_eq_true rfl)
  exact ret_v
set_option maxHeartbeats 4000000 in
theorem c_Letters_fourthIsGreat {E : pmEv} {h : pmH} {z : Option Nat} {x : Int32} : Call E mLetters_fourthIsGreat [.int x] h z 0 0 (Ret (some (.int (bI (65 ≤ ltr x 3 ∧ ltr x 3 ≤ 90)))) (h, z, false)) := by
  refine call_of (L := [some (.int x)]) ok_mLetters_fourthIsGreat (Nat.le_of_ble_eq_true rfl) ?_
  refine go_iload_n dLetters_fourthIsGreat_0 rfl ?_
  refine go_iconst (v := 3) dLetters_fourthIsGreat_1 (by decide) ?_
  refine go_statR dLetters_fourthIsGreat_2 ok_mLetters_letter st_mLetters_letter qm_Letters_7 c_Letters_letter ?_ (hnp := np_mLetters_letter)
  refine go_statR dLetters_fourthIsGreat_5 ok_mLetters_isGreat st_mLetters_isGreat qm_Letters_17 c_Letters_isGreat ?_ (hnp := np_mLetters_isGreat)
  refine go_iret dLetters_fourthIsGreat_8 rfl bI_n ?_ (Nat.le_of_ble_eq_true rfl) (Nat.le_of_ble_eq_true rfl)
  exact ret_v
set_option maxHeartbeats 4000000 in
theorem c_Letters_areOfExtra {E : pmEv} {h : pmH} {z : Option Nat} {x : Int32} : Call E mLetters_areOfExtra [.int x] h z 0 0 (Ret (some (.int (bI (exOk x)))) (h, z, false)) := by
  refine call_of (L := [some (.int x)]) ok_mLetters_areOfExtra (Nat.le_of_ble_eq_true rfl) ?_
  refine go_iload_n dLetters_areOfExtra_0 rfl ?_
  refine go_statR dLetters_areOfExtra_1 ok_mLetters_mayBe st_mLetters_mayBe qm_Letters_20 c_Letters_mayBe ?_ (hnp := np_mLetters_mayBe)
  refine go_ifeq_b (tgt := 42) dLetters_areOfExtra_4 (fun c1 => ?_) (fun c1 => ?_)
  · refine go_iconst (v := 0) dLetters_areOfExtra_42 (by decide) ?_
    refine go_iret dLetters_areOfExtra_43 rfl rfl ?_ (Nat.le_of_ble_eq_true rfl) (Nat.le_of_ble_eq_true rfl)
    first | (refine ret_bt ?_; grind) | (refine ret_bf ?_; grind)
  · refine go_iload_n dLetters_areOfExtra_7 rfl ?_
    refine go_statR dLetters_areOfExtra_8 ok_mLetters_firstIsGreat st_mLetters_firstIsGreat qm_Letters_23 c_Letters_firstIsGreat ?_ (hnp := np_mLetters_firstIsGreat)
    refine go_ifne_b (tgt := 42) dLetters_areOfExtra_11 (fun c2 => ?_) (fun c2 => ?_)
    · refine go_iconst (v := 0) dLetters_areOfExtra_42 (by decide) ?_
      refine go_iret dLetters_areOfExtra_43 rfl rfl ?_ (Nat.le_of_ble_eq_true rfl) (Nat.le_of_ble_eq_true rfl)
      first | (refine ret_bt ?_; grind) | (refine ret_bf ?_; grind)
    · refine go_iload_n dLetters_areOfExtra_14 rfl ?_
      refine go_ldc dLetters_areOfExtra_15 qc_Letters_26 ?_
      refine go_icmp_eq (tgt := 42) dLetters_areOfExtra_17 (fun c3 => ?_) (fun c3 => ?_)
      · refine go_iconst (v := 0) dLetters_areOfExtra_42 (by decide) ?_
        refine go_iret dLetters_areOfExtra_43 rfl rfl ?_ (Nat.le_of_ble_eq_true rfl) (Nat.le_of_ble_eq_true rfl)
        first | (refine ret_bt ?_; grind) | (refine ret_bf ?_; grind)
      · refine go_iload_n dLetters_areOfExtra_20 rfl ?_
        refine go_ldc dLetters_areOfExtra_21 qc_Letters_27 ?_
        refine go_icmp_eq (tgt := 42) dLetters_areOfExtra_23 (fun c4 => ?_) (fun c4 => ?_)
        · refine go_iconst (v := 0) dLetters_areOfExtra_42 (by decide) ?_
          refine go_iret dLetters_areOfExtra_43 rfl rfl ?_ (Nat.le_of_ble_eq_true rfl) (Nat.le_of_ble_eq_true rfl)
          first | (refine ret_bt ?_; grind) | (refine ret_bf ?_; grind)
        · refine go_iload_n dLetters_areOfExtra_26 rfl ?_
          refine go_ldc dLetters_areOfExtra_27 qc_Letters_28 ?_
          refine go_icmp_eq (tgt := 42) dLetters_areOfExtra_29 (fun c5 => ?_) (fun c5 => ?_)
          · refine go_iconst (v := 0) dLetters_areOfExtra_42 (by decide) ?_
            refine go_iret dLetters_areOfExtra_43 rfl rfl ?_ (Nat.le_of_ble_eq_true rfl) (Nat.le_of_ble_eq_true rfl)
            first | (refine ret_bt ?_; grind) | (refine ret_bf ?_; grind)
          · refine go_iload_n dLetters_areOfExtra_32 rfl ?_
            refine go_ldc dLetters_areOfExtra_33 qc_Letters_29 ?_
            refine go_icmp_eq (tgt := 42) dLetters_areOfExtra_35 (fun c6 => ?_) (fun c6 => ?_)
            · refine go_iconst (v := 0) dLetters_areOfExtra_42 (by decide) ?_
              refine go_iret dLetters_areOfExtra_43 rfl rfl ?_ (Nat.le_of_ble_eq_true rfl) (Nat.le_of_ble_eq_true rfl)
              first | (refine ret_bt ?_; grind) | (refine ret_bf ?_; grind)
            · refine go_iconst (v := 1) dLetters_areOfExtra_38 (by decide) ?_
              refine go_goto (tgt := 43) dLetters_areOfExtra_39 ?_
              refine go_iret dLetters_areOfExtra_43 rfl rfl ?_ (Nat.le_of_ble_eq_true rfl) (Nat.le_of_ble_eq_true rfl)
              first | (refine ret_bt ?_; grind) | (refine ret_bf ?_; grind)
