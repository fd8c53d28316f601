/-! ===== the law's loop and its entry (by wip/whole/gen_law3.py) ===== -/
theorem lp_c {L i : Nat} (hL : L ≤ 2560 := by omega) (hi : i ≤ 2565 := by omega) : nI L - 5 < nI i ↔ L < i + 5 := by
  rw [show (5 : Int32) = nI 5 from rfl, Int32.lt_iff_toInt_lt, pk_sub_toInt (by omega) (by omega), nI_toInt (by omega)]
  omega
set_option maxHeartbeats 4000000 in
theorem l_law {E : pmEv} {hm : pmH} {b x L : Nat} {xs : Nat → Int32} (hL : L ≤ 2560) : ∀ (r i : Nat) (α : aPF) (g : Nat → Int32) (A : Nat → Nat → Int32) (h : pmH) (d : Bool) (k n : Nat), L ≤ i + 5 * r → LI E h b x L xs α g A → k + 4 * r ≤ 601024 → n + 24 * r ≤ 7293034 → i ≤ L + 5 → Go E (mLaw_law, hm, 601024, 7293034) 23 [some (.ref b), some (.ref x), some (.ref (x + 31)), some (.ref (x + 48)), some (.int (nI i)), none, none] [] (h, none, d) k n (fun o _ => o = .inl (some (.int 1))) := by
  intro r
  induction r with
  | zero =>
    intro i α g A h d k n hr hI hk hn hi5
    refine go_iload dLaw_law_23 rfl ?_
    refine go_aload_n dLaw_law_25 rfl ?_
    refine go_alenT dLaw_law_26 hI.2.2.2.2.2.1 rfl ?_
    refine go_iconst (v := 5) dLaw_law_27 (by decide) ?_
    refine go_isub dLaw_law_28 ?_
    refine go_icmp_gt (tgt := 1295) dLaw_law_29 (fun c1 => ?_) (fun c1 => ?_)
    · refine go_iconst (v := 1) dLaw_law_1295 (by decide) ?_
      refine go_iret dLaw_law_1296 rfl rfl ?_ (show k ≤ 601024 by omega) (show n ≤ 7293034 by omega)
      rfl
    · exact absurd ((lp_c (L := L) (i := i)).mpr (by omega)) c1
  | succ r ih =>
    intro i α g A h d k n hr hI hk hn hi5
    refine go_iload dLaw_law_23 rfl ?_
    refine go_aload_n dLaw_law_25 rfl ?_
    refine go_alenT dLaw_law_26 hI.2.2.2.2.2.1 rfl ?_
    refine go_iconst (v := 5) dLaw_law_27 (by decide) ?_
    refine go_isub dLaw_law_28 ?_
    refine go_icmp_gt (tgt := 1295) dLaw_law_29 (fun c1 => ?_) (fun c1 => ?_)
    · refine go_iconst (v := 1) dLaw_law_1295 (by decide) ?_
      refine go_iret dLaw_law_1296 rfl rfl ?_ (show k ≤ 601024 by omega) (show n ≤ 7293034 by omega)
      rfl
    · have hi : i + 5 ≤ L := Nat.not_lt.mp fun q => c1 ((lp_c (L := L) (i := i)).mpr q)
      have hK : ∀ h' d' α' g' A', LI E h' b x L xs α' g' A' → Go E (mLaw_law, hm, 601024, 7293034) 1289 [some (.ref b), some (.ref x), some (.ref (x + 31)), some (.ref (x + 48)), some (.int (nI i)), none, none] [] (h', none, d') (k + 4) (n + 24) (fun o _ => o = .inl (some (.int 1))) := fun h' d' α' g' A' hI' => by
        refine go_iinc dLaw_law_1289 rfl rfl ?_
        refine go_goto (tgt := 23) dLaw_law_1292 ?_
        exact go_at (ih (i + 5) α' g' A' h' d' (k + 4) (n + 24) (by omega) hI' (by omega) (by omega) (by omega)) rfl (by rw [← nI_add]; rfl) rfl rfl
      refine go_aload_n dLaw_law_32 rfl ?_
      refine go_iload dLaw_law_33 rfl ?_
      refine go_ialdT dLaw_law_35 hI.2.2.2.2.2.1 (by exact vp_in_nI (by omega) (by omega)) (congrArg _ (nI_clamp (by omega))) ?_
      refine go_bipush (v := 31) dLaw_law_36 (by decide) ?_
      refine go_iand dLaw_law_38 ?_
      refine go_by (0) (fun s2 => ?_) (fun s2 => ?_)
      · refine go_tableIn (tgt := 132) (off := 93) dLaw_law_39 (by decide) (by decide) (by decide) ?_
        exact l_law_head hI hi hL (by omega) (by omega) hK
      refine go_by (1) (fun s3 => ?_) (fun s3 => ?_)
      · refine go_tableIn (tgt := 204) (off := 165) dLaw_law_39 (by decide) (by decide) (by decide) ?_
        exact l_law_colour hI hi hL (by omega) (by omega) hK
      refine go_by (2) (fun s4 => ?_) (fun s4 => ?_)
      · refine go_tableIn (tgt := 296) (off := 257) dLaw_law_39 (by decide) (by decide) (by decide) ?_
        exact l_law_put hI hi hL (by omega) (by omega) hK
      refine go_by (3) (fun s5 => ?_) (fun s5 => ?_)
      · refine go_tableIn (tgt := 388) (off := 349) dLaw_law_39 (by decide) (by decide) (by decide) ?_
        exact l_law_tag hI hi hL (by omega) (by omega) hK
      refine go_by (4) (fun s6 => ?_) (fun s6 => ?_)
      · refine go_tableIn (tgt := 456) (off := 417) dLaw_law_39 (by decide) (by decide) (by decide) ?_
        exact l_law_extra hI hi hL (by omega) (by omega) hK
      refine go_by (5) (fun s7 => ?_) (fun s7 => ?_)
      · refine go_tableIn (tgt := 512) (off := 473) dLaw_law_39 (by decide) (by decide) (by decide) ?_
        exact l_law_byteOf hI hi hL (by omega) (by omega) hK
      refine go_by (6) (fun s8 => ?_) (fun s8 => ?_)
      · refine go_tableIn (tgt := 580) (off := 541) dLaw_law_39 (by decide) (by decide) (by decide) ?_
        exact l_law_reduce hI hi hL (by omega) (by omega) hK
      refine go_by (7) (fun s9 => ?_) (fun s9 => ?_)
      · refine go_tableIn (tgt := 624) (off := 585) dLaw_law_39 (by decide) (by decide) (by decide) ?_
        exact l_law_write hI hi hL (by omega) (by omega) hK
      refine go_by (8) (fun s10 => ?_) (fun s10 => ?_)
      · refine go_tableIn (tgt := 668) (off := 629) dLaw_law_39 (by decide) (by decide) (by decide) ?_
        exact l_law_byteAt hI hi hL (by omega) (by omega) hK
      refine go_by (9) (fun s11 => ?_) (fun s11 => ?_)
      · refine go_tableIn (tgt := 724) (off := 685) dLaw_law_39 (by decide) (by decide) (by decide) ?_
        exact l_law_feed hI hi hL (by omega) (by omega) hK
      refine go_by (10) (fun s12 => ?_) (fun s12 => ?_)
      · refine go_tableIn (tgt := 780) (off := 741) dLaw_law_39 (by decide) (by decide) (by decide) ?_
        exact l_law_pass hI hi hL (by omega) (by omega) hK
      refine go_by (11) (fun s13 => ?_) (fun s13 => ?_)
      · refine go_tableIn (tgt := 848) (off := 809) dLaw_law_39 (by decide) (by decide) (by decide) ?_
        exact l_law_alter hI hi hL (by omega) (by omega) hK
      refine go_by (12) (fun s14 => ?_) (fun s14 => ?_)
      · refine go_tableIn (tgt := 944) (off := 905) dLaw_law_39 (by decide) (by decide) (by decide) ?_
        exact l_law_read hI hi hL (by omega) (by omega) hK
      refine go_by (13) (fun s15 => ?_) (fun s15 => ?_)
      · refine go_tableIn (tgt := 957) (off := 918) dLaw_law_39 (by decide) (by decide) (by decide) ?_
        exact l_law_at hI hi hL (by omega) (by omega) hK
      refine go_by (14) (fun s16 => ?_) (fun s16 => ?_)
      · refine go_tableIn (tgt := 1037) (off := 998) dLaw_law_39 (by decide) (by decide) (by decide) ?_
        exact l_law_found hI hi hL (by omega) (by omega) hK
      refine go_by (15) (fun s17 => ?_) (fun s17 => ?_)
      · refine go_tableIn (tgt := 1093) (off := 1054) dLaw_law_39 (by decide) (by decide) (by decide) ?_
        exact l_law_entry hI hi hL (by omega) (by omega) hK
      refine go_by (16) (fun s18 => ?_) (fun s18 => ?_)
      · refine go_tableIn (tgt := 1161) (off := 1122) dLaw_law_39 (by decide) (by decide) (by decide) ?_
        exact l_law_unknown hI hi hL (by omega) (by omega) hK
      refine go_by (17) (fun s19 => ?_) (fun s19 => ?_)
      · refine go_tableIn (tgt := 1229) (off := 1190) dLaw_law_39 (by decide) (by decide) (by decide) ?_
        exact l_law_take hI hi hL (by omega) (by omega) hK
      refine go_by (18) (fun s20 => ?_) (fun s20 => ?_)
      · refine go_tableIn (tgt := 1253) (off := 1214) dLaw_law_39 (by decide) (by decide) (by decide) ?_
        exact l_law_told hI hi hL (by omega) (by omega) hK
      refine go_by (19) (fun s21 => ?_) (fun s21 => ?_)
      · refine go_tableIn (tgt := 1278) (off := 1239) dLaw_law_39 (by decide) (by decide) (by decide) ?_
        exact l_law_drop hI hi hL (by omega) (by omega) hK
      refine go_tableOut (tgt := 1289) dLaw_law_39 (by have a0 := lv_neT s2 (a := 0) (by decide); have a1 := lv_neT s3 (a := 1) (by decide); have a2 := lv_neT s4 (a := 2) (by decide); have a3 := lv_neT s5 (a := 3) (by decide); have a4 := lv_neT s6 (a := 4) (by decide); have a5 := lv_neT s7 (a := 5) (by decide); have a6 := lv_neT s8 (a := 6) (by decide); have a7 := lv_neT s9 (a := 7) (by decide); have a8 := lv_neT s10 (a := 8) (by decide); have a9 := lv_neT s11 (a := 9) (by decide); have a10 := lv_neT s12 (a := 10) (by decide); have a11 := lv_neT s13 (a := 11) (by decide); have a12 := lv_neT s14 (a := 12) (by decide); have a13 := lv_neT s15 (a := 13) (by decide); have a14 := lv_neT s16 (a := 14) (by decide); have a15 := lv_neT s17 (a := 15) (by decide); have a16 := lv_neT s18 (a := 16) (by decide); have a17 := lv_neT s19 (a := 17) (by decide); have a18 := lv_neT s20 (a := 18) (by decide); have a19 := lv_neT s21 (a := 19) (by decide); omega) ?_
      exact go_wd (hK h d α g A hI) (by omega) (by omega)
set_option maxHeartbeats 4000000 in
theorem law_go {E : pmEv} {hm : pmH} {b x L : Nat} {xs : Nat → Int32} (hL : L ≤ 2560) (hb : hm b = some (pmT L xs)) (hbx : b < x) (hS : SA E hm x) : Go E (mLaw_law, hm, 601024, 7293034) 0 [some (.ref b), none, none, none, none, none, none] [] (hm, some x, false) 0 0 (fun o _ => o = .inl (some (.int 1))) := by
  refine go_new7 (z := x) dLaw_law_0 qn_Law_8 rfl (Nat.le_of_ble_eq_true rfl) (Nat.le_of_ble_eq_true rfl) ?_
  refine go_dup dLaw_law_3 rfl ?_
  refine go_initI dLaw_law_4 ok_mPF_init im_mPF_init ok_mPF_init.1.1 (Or.inl qm_Law_75) (i_PF (pmU_s _ _ _)) (fun hx1 d1 q1 => ?_)
  refine go_astore_n dLaw_law_7 ?_
  refine go_new8 (z := x + 31) dLaw_law_8 qn_Law_76 rfl (Nat.le_of_ble_eq_true rfl) (Nat.le_of_ble_eq_true rfl) ?_
  refine go_dup dLaw_law_11 rfl ?_
  refine go_initI dLaw_law_12 ok_mRef_init im_mRef_init ok_mRef_init.1.1 (Or.inl qm_Law_78) (i_Ref (pmU_s _ _ _)) (fun hx2 d2 q2 => ?_)
  refine go_astore_n dLaw_law_15 ?_
  refine go_iconst (v := 1) dLaw_law_16 (by decide) ?_
  refine go_newJ (z := x + 31 + 17) (N := 1) dLaw_law_17 rfl (by decide) (by decide) (by decide) (Nat.le_of_ble_eq_true rfl) (Nat.le_of_ble_eq_true rfl) ?_
  refine go_astore_n dLaw_law_19 ?_
  refine go_iconst (v := 0) dLaw_law_20 (by decide) ?_
  refine go_istore dLaw_law_21 ?_
  have hsm : Sm hm (pmU hx2 (x + 31 + 17) (pmJ 1 (fun _ => 0))) x 49 := (Sm.put' ((Sm.put' ((Sm.put' (Sm.refl _ _ _) _ (by omega) (by omega)).trans (q1.2.sub (by omega) (by omega))) _ (by omega) (by omega)).trans (q2.2.sub (by omega) (by omega))) _ (by omega) (by omega))
  refine go_zn ?_
  exact go_at (l_law hL 512 0 pf0 (fun _ => 0) (fun _ _ => 0) _ _ _ _ (by omega) ⟨(((q1.1.sm (Sm.put1 _) (by omega)).sm q2.2 (by omega)).sm (Sm.put1 _) (by omega)), (q2.1.sm (Sm.put1 _) (by omega)), RR.o0, IvA.o0, hS.cg (fun q h1 => hsm q (by omega)), (hsm b (by omega)).trans hb, hbx, _, (pmU_s _ _ _)⟩ (by omega) (by omega) (by omega)) rfl rfl rfl rfl
