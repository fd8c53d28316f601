/-! ===== the reference: sums, and what is told (by wip/whole/gen_rSum.py) ===== -/
theorem go_topL {E : pmEv} {F : pmFr} {pc : Nat} {L : pmL} {st : List Value} {S : pmS} {k n : Nat} {Q : pmA → pmS → Prop} {x y : Int64} (e : x = y) (h : Go E F pc L (.long y :: st) S k n Q) : Go E F pc L (.long x :: st) S k n Q := by rw [e]; exact h
/-- the reference while it writes: p is written -/
def RWr (h : pmH) (m : Nat) (g : Nat → Int32) (A : Nat → Nat → Int32) (p : aRow) : Prop := ∃ f, RfA h m (upd g 30 (nI p.2)) (uA A 12 f) ∧ Ag p.2 f p.1
theorem RWr.cell {h : pmH} {m : Nat} {g : Nat → Int32} {A : Nat → Nat → Int32} {p : aRow} (hW : RWr h m g A p) : h m = some (pmO 8 [.int (g 0), .int (g 1), .int (g 2), .int (g 3), .int (g 4), .int (g 5), .ref (m + 1), .int (g 7), .ref (m + 2), .ref (m + 3), .int (g 10), .ref (m + 4), .ref (m + 5), .ref (m + 6), .int (g 14), .int (g 15), .int (g 16), .int (g 17), .int (g 18), .ref (m + 7), .int (g 20), .ref (m + 8), .ref (m + 9), .int (g 23), .ref (m + 10), .ref (m + 11), .ref (m + 12), .int (g 27), .int (g 28), .ref (m + 13), .int (nI p.2), .ref (m + 14), .int (g 32), .int (g 33), .ref (m + 15), .int (g 35), .int (g 36), .int (g 37), .int (g 38), .int (g 39), .int (g 40), .ref (m + 16)]) := by
  obtain ⟨f, hR, -⟩ := hW
  exact hR.1
def tnB (x : Int32) (k : Nat) : Int32 := (x >>> ((24 - 8 * nI k) &&& 31)) &&& 255
theorem u24 (x : Int32) : u4 x 24 &&& 255 = u4 x 24 := by
  rw [pk_and _ (m := 255) 8 (by decide)]
  have e : (u4 x 24).toBitVec.toNat = x.toBitVec.toNat / 2 ^ 24 := pk_ushr x 24 24 (by decide)
  have h := x.toBitVec.isLt
  rw [Nat.mod_eq_of_lt (by rw [e]; omega)]
  apply Int32.toBitVec_inj.mp
  apply BitVec.eq_of_toNat_eq
  exact pk_tn (BitVec.isLt _)
theorem tn_0 (x : Int32) : tnB x 0 = u4 x 24 := (ltr_sh (k := 0) (by omega)).trans (u24 x)
theorem tn_1 (x : Int32) : tnB x 1 = u4 x 16 &&& 255 := ltr_sh (k := 1) (by omega)
theorem tn_2 (x : Int32) : tnB x 2 = u4 x 8 &&& 255 := ltr_sh (k := 2) (by omega)
theorem u0 (x : Int32) : u4 x 0 = x := by
  apply Int32.toBitVec_inj.mp
  apply BitVec.eq_of_toNat_eq
  exact (pk_ushr x 0 0 (by decide)).trans (Nat.div_one _)
theorem tn_3 (x : Int32) : tnB x 3 = x &&& 255 := (ltr_sh (k := 3) (by omega)).trans (by show u4 x 0 &&& 255 = _; rw [u0])
theorem tn_wN (p : aRow) (x : Int32) : wAs (tnB x) 0 4 p = wN p x := by
  show wA (wA (wA (wA p (tnB x 0)) (tnB x 1)) (tnB x 2)) (tnB x 3) = _
  rw [tn_0, tn_1, tn_2, tn_3]
  rfl
set_option maxHeartbeats 4000000 in
theorem l_Ref_sumOf_in {E : pmEv} {h : pmH} {z : Option Nat} {a i0 e i : Nat} {Q : pmA → pmS → Prop} : ∀ (n : Nat) (k : Nat) (v : Nat), k + n = 8 → v < 2 ^ 32 → (Go E (mRef_sumOf, h, 0, 0) 65 [some (.ref a), some (.int (nI i0)), some (.int (nI e)), some (.long (lN (itN n v))), none, some (.int (nI (i))), some (.int (nI (8)))] [] (h, z, false) 0 0 (Q)) → Go E (mRef_sumOf, h, 0, 0) 24 [some (.ref a), some (.int (nI i0)), some (.int (nI e)), some (.long (lN (v))), none, some (.int (nI (i))), some (.int (nI (k)))] [] (h, z, false) 0 0 (Q) := by
  intro n
  induction n with
  | zero =>
    intro k v hk hv hkk
    refine go_iload dRef_sumOf_24 rfl ?_
    refine go_bipush (v := 8) dRef_sumOf_26 (by decide) ?_
    refine go_icmp_ge (tgt := 65) dRef_sumOf_28 (fun c1 => ?_) (fun c1 => ?_)
    · obtain rfl : k = 8 := by omega
      exact hkk
    · exact absurd (nI_le (a := 8) (b := k) (by omega) (by omega)) c1
  | succ n ih =>
    intro k v hk hv hkk
    refine go_iload dRef_sumOf_24 rfl ?_
    refine go_bipush (v := 8) dRef_sumOf_26 (by decide) ?_
    refine go_icmp_ge (tgt := 65) dRef_sumOf_28 (fun c1 => ?_) (fun c1 => ?_)
    · exact absurd c1 (nI_ge (a := k) (b := 8) (by omega) (by omega))
    · refine go_lload_n dRef_sumOf_31 rfl ?_
      refine go_ldc2 dRef_sumOf_32 qj_Ref_156 ?_
      refine go_lrem dRef_sumOf_35 (by first | decide | exact vp_in_nI (by omega) (by omega)) ?_
      refine go_topL (y := lN (v % 2)) (by exact pk_lRem (b := 2) (by omega) (by omega) (by omega)) ?_
      refine go_lconst (v := 0) dRef_sumOf_36 (by decide) ?_
      refine go_lcmp dRef_sumOf_37 ?_
      refine go_if_ne (tgt := 49) dRef_sumOf_38 (fun c2 => ?_) (fun c2 => ?_)
      · refine go_lload_n dRef_sumOf_49 rfl ?_
        refine go_ldc2 dRef_sumOf_50 qj_Ref_156 ?_
        refine go_ldiv dRef_sumOf_53 (by first | decide | exact vp_in_nI (by omega) (by omega)) ?_
        refine go_topL (y := lN (v / 2)) (by exact pk_lDiv (b := 2) (by omega) (by omega) (by omega)) ?_
        refine go_ldc2 dRef_sumOf_54 qj_Ref_158 ?_
        refine go_lxor dRef_sumOf_57 ?_
        refine go_topL (y := lN (stN v)) (by rw [stN, if_neg (fun q => c2 (by rw [q]; exact lc_e.mpr rfl)), ← lN_xor]; rfl) ?_
        refine go_lstore_n dRef_sumOf_58 ?_
        refine go_iinc dRef_sumOf_59 rfl (congrArg (_ + ·) lit1) ?_
        refine go_goto (tgt := 24) dRef_sumOf_62 ?_
        exact go_at (ih (k + 1) (stN v) (by omega) (stN_lt hv) hkk) rfl (by rw [nI_succ k]; rfl) rfl rfl
      · refine go_lload_n dRef_sumOf_41 rfl ?_
        refine go_ldc2 dRef_sumOf_42 qj_Ref_156 ?_
        refine go_ldiv dRef_sumOf_45 (by first | decide | exact vp_in_nI (by omega) (by omega)) ?_
        refine go_topL (y := lN (v / 2)) (by exact pk_lDiv (b := 2) (by omega) (by omega) (by omega)) ?_
        refine go_goto (tgt := 58) dRef_sumOf_46 ?_
        refine go_topL (y := lN (stN v)) (by rw [stN, if_pos ((pk_lEQ (b := 0) (by omega) (by omega)).mp (lc_e.mp c2))]) ?_
        refine go_lstore_n dRef_sumOf_58 ?_
        refine go_iinc dRef_sumOf_59 rfl (congrArg (_ + ·) lit1) ?_
        refine go_goto (tgt := 24) dRef_sumOf_62 ?_
        exact go_at (ih (k + 1) (stN v) (by omega) (stN_lt hv) hkk) rfl (by rw [nI_succ k]; rfl) rfl rfl
set_option maxHeartbeats 4000000 in
theorem l_Ref_sumOf {E : pmEv} {h : pmH} {z : Option Nat} {a N i0 e : Nat} {f : Nat → Int32} (hN : N ≤ 4096) (he : e ≤ N) (hb : ∀ j, i0 ≤ j → j < e → byt (f j)) (hf : h a = some (pmI N f)) : ∀ (n : Nat) (i : Nat) (s : Int32), i + n = e → i0 ≤ i → Go E (mRef_sumOf, h, 0, 0) 7 [some (.ref a), some (.int (nI i0)), some (.int (nI e)), some (.long (lN (uN4 s))), none, some (.int (nI (i))), none] [] (h, z, false) 0 0 (Ret (some (.int (crR f n i s ^^^ (-1)))) (h, z, false)) := by
  intro n
  induction n with
  | zero =>
    intro i s hi h0i
    refine go_iload dRef_sumOf_7 rfl ?_
    refine go_iload_n dRef_sumOf_9 rfl ?_
    refine go_icmp_ge (tgt := 71) dRef_sumOf_10 (fun c1 => ?_) (fun c1 => ?_)
    · refine go_ldc2 dRef_sumOf_71 qj_Ref_154 ?_
      refine go_lload_n dRef_sumOf_74 rfl ?_
      refine go_lsub dRef_sumOf_75 ?_
      refine go_topL (y := lN (4294967295 - uN4 s)) (by exact lN_sub (a := 4294967295) (by have := uN4_lt s; omega)) ?_
      refine go_l2i dRef_sumOf_76 ?_
      refine go_iret dRef_sumOf_77 rfl rfl ?_ (Nat.le_of_ble_eq_true rfl) (Nat.le_of_ble_eq_true rfl)
      exact ret_e (by rw [lN_i, cmp_n]; rfl)
    · exact absurd (nI_le (a := e) (b := i) (by omega) (by omega)) c1
  | succ n ih =>
    intro i s hi h0i
    refine go_iload dRef_sumOf_7 rfl ?_
    refine go_iload_n dRef_sumOf_9 rfl ?_
    refine go_icmp_ge (tgt := 71) dRef_sumOf_10 (fun c1 => ?_) (fun c1 => ?_)
    · exact absurd c1 (nI_ge (a := i) (b := e) (by omega) (by omega))
    · refine go_lload_n dRef_sumOf_13 rfl ?_
      refine go_aload_n dRef_sumOf_14 rfl ?_
      refine go_iload dRef_sumOf_15 rfl ?_
      refine go_iald dRef_sumOf_17 hf (by first | decide | exact vp_in_nI (by omega) (by omega)) (congrArg _ (nI_clamp (by omega))) ?_
      obtain ⟨b5, hb5, eb5⟩ := len_ex (hb i h0i (by omega))
      rw [eb5]
      refine go_i2l dRef_sumOf_18 ?_
      refine go_lxor dRef_sumOf_19 ?_
      refine go_topL (y := lN (uN4 s ^^^ b5)) (by rw [nI_l (by omega), lN_xor]) ?_
      refine go_lstore_n dRef_sumOf_20 ?_
      refine go_iconst (v := 0) dRef_sumOf_21 (by decide) ?_
      refine go_istore dRef_sumOf_22 ?_
      refine l_Ref_sumOf_in 8 0 (uN4 s ^^^ b5) (by omega) (Nat.xor_lt_two_pow (uN4_lt s) (by omega)) ?_
      refine go_iinc dRef_sumOf_65 rfl (congrArg (_ + ·) lit1) ?_
      refine go_goto (tgt := 7) dRef_sumOf_68 ?_
      refine go_fg 6 ?_
      exact (go_at (ih (i + 1) (bT4 (bT4 (s ^^^ f i))) (by omega) (by omega)) rfl (by rw [nI_succ i, eb5, uN4_step hb5]; rfl) rfl rfl)
set_option maxHeartbeats 4000000 in
theorem r_sumOf {E : pmEv} {h : pmH} {z : Option Nat} {a N i0 e : Nat} {f : Nat → Int32} (hN : N ≤ 4096) (he : e ≤ N) (hi : i0 ≤ e) (hb : ∀ j, i0 ≤ j → j < e → byt (f j)) (hf : h a = some (pmI N f)) : Call E mRef_sumOf [.ref a, .int (nI i0), .int (nI e)] h z 0 0 (Ret (some (.int (crR f (e - i0) i0 (-1) ^^^ (-1)))) (h, z, false)) := by
  refine call_of (L := [some (.ref a), some (.int (nI i0)), some (.int (nI e)), none, none, none, none]) ok_mRef_sumOf (Nat.le_of_ble_eq_true rfl) ?_
  refine go_ldc2 dRef_sumOf_0 qj_Ref_154 ?_
  refine go_lstore_n dRef_sumOf_3 ?_
  refine go_iload_n dRef_sumOf_4 rfl ?_
  refine go_istore dRef_sumOf_5 ?_
  exact l_Ref_sumOf hN he hb hf (e - i0) i0 (-1) (by omega) (Nat.le_refl _)
set_option maxHeartbeats 4000000 in
theorem r_tell {E : pmEv} {h : pmH} {z : Option Nat} {m : Nat} {g : Nat → Int32} {A : Nat → Nat → Int32} {p : aRow} {x : Int32} (hp : p.2 < 2000) (hW : RWr h m g A p) : Call E mRef_tell [.ref m, .int x] h z 0 0 (RetX (none) (fun h' => RWr h' m g A (wA p x) ∧ Sm h h' m 17) z) := by
  obtain ⟨f, hR, hf⟩ := hW
  have hs : Sm h h m 17 := Sm.refl _ _ _
  refine call_of (L := [some (.ref m), some (.int x)]) ok_mRef_tell (Nat.le_of_ble_eq_true rfl) ?_
  refine go_aload_n dRef_tell_0 rfl ?_
  refine go_getf dRef_tell_1 qf_Ref_46 hR.1 rfl ?_
  refine go_aload_n dRef_tell_4 rfl ?_
  refine go_getf dRef_tell_5 qf_Ref_147 hR.1 rfl ?_
  refine go_top (y := nI p.2) (by exact rfl) ?_
  refine go_iload_n dRef_tell_8 rfl ?_
  refine go_iast dRef_tell_9 hR.2.2.2.2.2.2.2.2.2.2.2.2.2.1 (by exact vp_in_nI (by omega) (by omega)) (nI_clamp (by omega)) ?_
  refine go_aload_n dRef_tell_10 rfl ?_
  refine go_dup dRef_tell_11 rfl ?_
  refine go_getf dRef_tell_12 qf_Ref_147 ((pmU_n _ _ (by omega)).trans hR.1) rfl ?_
  refine go_iconst (v := 1) dRef_tell_15 (by decide) ?_
  refine go_iadd dRef_tell_16 ?_
  refine go_top (y := nI (p.2 + 1)) (by exact nI_a1 _) ?_
  refine go_putf dRef_tell_17 qf_Ref_147 pw_8_30 ((pmU_n _ _ (by omega)).trans hR.1) rfl rfl ?_
  refine go_nm (fun hnk1 enk1 => ?_)
  have gsk1 : Sm h hnk1 m 17 := by rw [enk1]; exact (Sm.put' (Sm.put' (Sm.refl _ _ _) _ (by omega) (by omega)) _ (by omega) (by omega))
  have hRk1 : RfA hnk1 m (upd g 30 (nI (p.2 + 1))) (uA A 12 (upd f p.2 x)) := ⟨(congrFun enk1 m).trans (pmU_s _ _ _), (congrFun enk1 (m + 1)).trans ((pmU_n _ _ (by omega)).trans ((pmU_n _ _ (by omega)).trans hR.2.1)), (congrFun enk1 (m + 2)).trans ((pmU_n _ _ (by omega)).trans ((pmU_n _ _ (by omega)).trans hR.2.2.1)), (congrFun enk1 (m + 3)).trans ((pmU_n _ _ (by omega)).trans ((pmU_n _ _ (by omega)).trans hR.2.2.2.1)), (congrFun enk1 (m + 4)).trans ((pmU_n _ _ (by omega)).trans ((pmU_n _ _ (by omega)).trans hR.2.2.2.2.1)), (congrFun enk1 (m + 5)).trans ((pmU_n _ _ (by omega)).trans ((pmU_n _ _ (by omega)).trans hR.2.2.2.2.2.1)), (congrFun enk1 (m + 6)).trans ((pmU_n _ _ (by omega)).trans ((pmU_n _ _ (by omega)).trans hR.2.2.2.2.2.2.1)), (congrFun enk1 (m + 7)).trans ((pmU_n _ _ (by omega)).trans ((pmU_n _ _ (by omega)).trans hR.2.2.2.2.2.2.2.1)), (congrFun enk1 (m + 8)).trans ((pmU_n _ _ (by omega)).trans ((pmU_n _ _ (by omega)).trans hR.2.2.2.2.2.2.2.2.1)), (congrFun enk1 (m + 9)).trans ((pmU_n _ _ (by omega)).trans ((pmU_n _ _ (by omega)).trans hR.2.2.2.2.2.2.2.2.2.1)), (congrFun enk1 (m + 10)).trans ((pmU_n _ _ (by omega)).trans ((pmU_n _ _ (by omega)).trans hR.2.2.2.2.2.2.2.2.2.2.1)), (congrFun enk1 (m + 11)).trans ((pmU_n _ _ (by omega)).trans ((pmU_n _ _ (by omega)).trans hR.2.2.2.2.2.2.2.2.2.2.2.1)), (congrFun enk1 (m + 12)).trans ((pmU_n _ _ (by omega)).trans ((pmU_n _ _ (by omega)).trans hR.2.2.2.2.2.2.2.2.2.2.2.2.1)), (congrFun enk1 (m + 13)).trans ((pmU_n _ _ (by omega)).trans (pmU_s _ _ _)), (congrFun enk1 (m + 14)).trans ((pmU_n _ _ (by omega)).trans ((pmU_n _ _ (by omega)).trans hR.2.2.2.2.2.2.2.2.2.2.2.2.2.2.1)), (congrFun enk1 (m + 15)).trans ((pmU_n _ _ (by omega)).trans ((pmU_n _ _ (by omega)).trans hR.2.2.2.2.2.2.2.2.2.2.2.2.2.2.2.1)), (congrFun enk1 (m + 16)).trans ((pmU_n _ _ (by omega)).trans ((pmU_n _ _ (by omega)).trans hR.2.2.2.2.2.2.2.2.2.2.2.2.2.2.2.2))⟩
  have sk1 := hs.trans gsk1
  refine go_vret dRef_tell_20 rfl ?_ (Nat.le_of_ble_eq_true rfl) (Nat.le_of_ble_eq_true rfl)
  exact retX ⟨⟨_, hRk1, hf.push x⟩, sk1⟩
set_option maxHeartbeats 4000000 in
theorem l_Ref_tellNumber {E : pmEv} {h0 : pmH} {z : Option Nat} {m : Nat} {g : Nat → Int32} {A : Nat → Nat → Int32} {x : Int32} {P : aRow} : ∀ (n : Nat) (k : Nat) (p : aRow) (h : pmH) (d : Bool), k + n = 4 → p.2 + n ≤ 2000 → RWr h m g A p → Sm h0 h m 17 → P = wAs (tnB x) k n p → Go E (mRef_tellNumber, h0, 0, 0) 2 [some (.ref m), some (.int x), some (.int (nI k))] [] (h, z, d) 0 0 (RetX (none) (fun h' => RWr h' m g A (P) ∧ Sm h0 h' m 17) z) := by
  intro n
  induction n with
  | zero =>
    intro k p h d hk hp hW hs hP
    refine go_iload_n dRef_tellNumber_2 rfl ?_
    refine go_iconst (v := 4) dRef_tellNumber_3 (by decide) ?_
    refine go_icmp_ge (tgt := 30) dRef_tellNumber_4 (fun c1 => ?_) (fun c1 => ?_)
    · refine go_vret dRef_tellNumber_30 rfl ?_ (Nat.le_of_ble_eq_true rfl) (Nat.le_of_ble_eq_true rfl)
      rw [show P = p from hP]
      exact retX ⟨hW, hs⟩
    · exact absurd (nI_le (a := 4) (b := k) (by omega) (by omega)) c1
  | succ n ih =>
    intro k p h d hk hp hW hs hP
    refine go_iload_n dRef_tellNumber_2 rfl ?_
    refine go_iconst (v := 4) dRef_tellNumber_3 (by decide) ?_
    refine go_icmp_ge (tgt := 30) dRef_tellNumber_4 (fun c1 => ?_) (fun c1 => ?_)
    · exact absurd c1 (nI_ge (a := k) (b := 4) (by omega) (by omega))
    · refine go_aload_n dRef_tellNumber_7 rfl ?_
      refine go_iload_n dRef_tellNumber_8 rfl ?_
      refine go_bipush (v := 24) dRef_tellNumber_9 (by decide) ?_
      refine go_bipush (v := 8) dRef_tellNumber_11 (by decide) ?_
      refine go_iload_n dRef_tellNumber_13 rfl ?_
      refine go_imul dRef_tellNumber_14 ?_
      refine go_isub dRef_tellNumber_15 ?_
      refine go_ishr dRef_tellNumber_16 ?_
      refine go_sipush (v := 255) dRef_tellNumber_17 (by decide) ?_
      refine go_iand dRef_tellNumber_20 ?_
      refine go_virtX dRef_tellNumber_21 ok_mRef_tell im_mRef_tell se_mRef_tell qm_Ref_150 hW.cell (r_tell (p := p) (by omega) hW) (fun hx2 d2 q2 => ?_) (hnp := np_mRef_tell)
      have hW2 := q2.1
      have s2 := hs.trans q2.2
      refine go_iinc dRef_tellNumber_24 rfl (congrArg (_ + ·) lit1) ?_
      refine go_goto (tgt := 2) dRef_tellNumber_27 ?_
      exact go_at (ih (k + 1) (wA p (tnB x k)) _ _ (by omega) (show p.2 + 1 + n ≤ 2000 by omega) hW2 s2 (by rw [hP, wAs])) rfl (by rw [nI_succ k]; rfl) rfl rfl
set_option maxHeartbeats 4000000 in
theorem r_tellNumber {E : pmEv} {h : pmH} {z : Option Nat} {m : Nat} {g : Nat → Int32} {A : Nat → Nat → Int32} {p : aRow} {x : Int32} (hp : p.2 + 4 ≤ 2000) (hW : RWr h m g A p) : Call E mRef_tellNumber [.ref m, .int x] h z 0 0 (RetX (none) (fun h' => RWr h' m g A (wN p x) ∧ Sm h h' m 17) z) := by
  refine call_of (L := [some (.ref m), some (.int x), none]) ok_mRef_tellNumber (Nat.le_of_ble_eq_true rfl) ?_
  refine go_iconst (v := 0) dRef_tellNumber_0 (by decide) ?_
  refine go_istore_n dRef_tellNumber_1 ?_
  exact l_Ref_tellNumber 4 0 p h false (by omega) hp hW (Sm.refl _ _ _) (tn_wN p x).symm
set_option maxHeartbeats 4000000 in
theorem r_open {E : pmEv} {h : pmH} {z : Option Nat} {m : Nat} {g : Nat → Int32} {A : Nat → Nat → Int32} {p : aRow} {x : Int32} (hp : p.2 + 8 ≤ 2000) (hW : RWr h m g A p) : Call E mRef_open [.ref m, .int x] h z 0 0 (RetX (some (.int (nI p.2))) (fun h' => RWr h' m g A (opW p x) ∧ Sm h h' m 17) z) := by
  have hs : Sm h h m 17 := Sm.refl _ _ _
  refine call_of (L := [some (.ref m), some (.int x), none]) ok_mRef_open (Nat.le_of_ble_eq_true rfl) ?_
  refine go_aload_n dRef_open_0 rfl ?_
  refine go_getf dRef_open_1 qf_Ref_147 hW.cell rfl ?_
  refine go_istore_n dRef_open_4 ?_
  refine go_aload_n dRef_open_5 rfl ?_
  refine go_iconst (v := 0) dRef_open_6 (by decide) ?_
  refine go_virtX dRef_open_7 ok_mRef_tellNumber im_mRef_tellNumber se_mRef_tellNumber qm_Ref_164 hW.cell (r_tellNumber (by omega) hW) (fun hx1 d1 q1 => ?_) (hnp := np_mRef_tellNumber)
  have hW1 := q1.1
  have s1 := hs.trans q1.2
  refine go_aload_n dRef_open_10 rfl ?_
  refine go_iload_n dRef_open_11 rfl ?_
  refine go_virtX dRef_open_12 ok_mRef_tellNumber im_mRef_tellNumber se_mRef_tellNumber qm_Ref_164 q1.1.cell (r_tellNumber (by show p.2 + 4 + 4 ≤ 2000; omega) hW1) (fun hx2 d2 q2 => ?_) (hnp := np_mRef_tellNumber)
  have hW2 := q2.1
  have s2 := s1.trans q2.2
  refine go_iload_n dRef_open_15 rfl ?_
  refine go_iret dRef_open_16 rfl rfl ?_ (Nat.le_of_ble_eq_true rfl) (Nat.le_of_ble_eq_true rfl)
  exact retX ⟨hW2, s2⟩
