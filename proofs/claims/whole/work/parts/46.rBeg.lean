/-! ===== the reference: begin, read (by wip/whole/gen_rBeg.py) ===== -/
def bS (p : aRow) (S : aRs) : aRs := (S.1, (S.2.1.1, 0), begG p S.2.2)
theorem RG.beg {g : Nat → Int32} {A : Nat → Nat → Int32} {p : aRow} {S : aRs} {f8 f15 : Nat → Int32} (hM : hasM p) (h8 : ∀ k, k < 3 → f8 k = -1) (h15 : ∀ k, k < 3 → f15 k = 0) : RG (upd (upd (upd (upd (upd (upd (upd (upd (upd (upd (upd g 28 0) 14 0) 20 0) 23 0) 27 0) 35 0) 36 0) 37 0) 38 0) 39 0) 40 0) (uA (uA A 8 f8) 15 f15) (bS p S) 8 := by
  unfold bS begG
  rw [if_pos hM]
  exact ⟨rfl, ⟨rfl, rfl, rfl, rfl, rfl⟩, ⟨rfl, fun i hi => absurd hi (Nat.not_lt_zero _), fun i hi => absurd hi (Nat.not_lt_zero _)⟩, rfl, fun _ => ⟨rfl, rfl, fun t ht => ⟨h8 t ht, h15 t ht⟩⟩, fun q => absurd rfl q, ⟨fun q => absurd rfl q, rfl, Nat.zero_le _⟩, fun q => absurd rfl q⟩
def BgP (m : Nat) (h : pmH) (o : Bool × aPic) (w p : aRow) (S : aRs) (h' : pmH) : Prop := ∃ g A, RfA h' m g A ∧ Sm h h' m 17 ∧ RB g A o w p ∧ ((hasM p ∧ RG g A (bS p S) 8) ∨ (¬ hasM p ∧ g 28 = 1 ∧ g 33 = 0))
def RdQ (m : Nat) (h : pmH) (o : Bool × aPic) (w p : aRow) (F : Int32 × Nat × aRs) (h' : pmH) : Prop := (∃ g A, RfA h' m g A ∧ RB g A o w p ∧ g 28 = F.1 ∧ g 14 = bI (F.1 = 0) ∧ (F.1 = 0 → RP g A F.2.2.1.2 ∧ IvP F.2.2.1.2 ∧ F.2.2.1.1 = true ∧ g 27 = F.2.2.2.2 4)) ∧ Sm h h' m 17
theorem rcS_3 {p : aRow} {a : Nat} {S : aRs} : (rcS p a S).2.2 3 = S.2.2 3 + (if smW p a then 1 else 0) := by
  unfold rcS
  by_cases e : smW p a
  · rw [if_neg (fun q => q e), if_pos e]
    show (tkS p a (lnN p a) (fr p.1 (a + 4)) (S.1, S.2.1, frG p a S.2.2)).2.2 3 + 1 = _
    rw [tkS_g (by omega)]
    rfl
  · rw [if_pos e, if_neg e, loS_g (by omega) (by omega), Int32.add_zero]
    rfl
theorem rcS_6 {p : aRow} {a : Nat} {S : aRs} : (rcS p a S).2.2 6 = fr p.1 (a + 4) := by
  unfold rcS
  by_cases e : smW p a
  · rw [if_neg (fun q => q e), nx_g (by omega) (by omega), tkS_g (by omega)]
    rfl
  · rw [if_pos e, loS_g (by omega) (by omega)]
    rfl
set_option maxHeartbeats 4000000 in
theorem l_Ref_beg1 {E : pmEv} {h0 : pmH} {z : Option Nat} {m : Nat} {g : Nat → Int32} {A : Nat → Nat → Int32} {Q : pmA → pmS → Prop} : ∀ (n : Nat) (i : Nat) (f8 : Nat → Int32) (f15 : Nat → Int32) (h : pmH) (d : Bool), i + n = 3 → RfA h m g (uA (uA A 8 f8) 15 f15) → (∀ k, k < i → f8 k = (fun _ => -1) k) → (∀ k, k < i → f15 k = (fun _ => 0) k) → Sm h0 h m 17 → (∀ hx dx (f8' : Nat → Int32) (f15' : Nat → Int32), RfA hx m g (uA (uA A 8 f8') 15 f15') → (∀ k, k < 3 → f8' k = (fun _ => -1) k) → (∀ k, k < 3 → f15' k = (fun _ => 0) k) → Sm h0 hx m 17 → Go E (mRef_begin, h0, 0, 0) 82 [some (.ref m), some (.int (nI (3))), none] [] (hx, z, dx) 0 0 (Q)) → Go E (mRef_begin, h0, 0, 0) 57 [some (.ref m), some (.int (nI (i))), none] [] (h, z, d) 0 0 (Q) := by
  intro n
  induction n with
  | zero =>
    intro i f8 f15 h d hi hR e8 e15 hs hk
    refine go_iload_n dRef_begin_57 rfl ?_
    refine go_iconst (v := 3) dRef_begin_58 (by decide) ?_
    refine go_icmp_ge (tgt := 82) dRef_begin_59 (fun c1 => ?_) (fun c1 => ?_)
    · obtain rfl : i = 3 := by omega
      exact hk h d f8 f15 hR e8 e15 hs
    · exact absurd (nI_le (a := 3) (b := i) (by omega) (by omega)) c1
  | succ n ih =>
    intro i f8 f15 h d hi hR e8 e15 hs hk
    refine go_iload_n dRef_begin_57 rfl ?_
    refine go_iconst (v := 3) dRef_begin_58 (by decide) ?_
    refine go_icmp_ge (tgt := 82) dRef_begin_59 (fun c1 => ?_) (fun c1 => ?_)
    · exact absurd c1 (nI_ge (a := i) (b := 3) (by omega) (by omega))
    · refine go_aload_n dRef_begin_62 rfl ?_
      refine go_getf dRef_begin_63 qf_Ref_34 hR.1 rfl ?_
      refine go_iload_n dRef_begin_66 rfl ?_
      refine go_iconst (v := -1) dRef_begin_67 (by decide) ?_
      refine go_iast dRef_begin_68 hR.2.2.2.2.2.2.2.2.2.1 (by exact vp_in_nI (by omega) (by omega)) (nI_clamp (by omega)) ?_
      refine go_aload_n dRef_begin_69 rfl ?_
      refine go_getf dRef_begin_70 qf_Ref_55 ((pmU_n _ _ (by omega)).trans hR.1) rfl ?_
      refine go_iload_n dRef_begin_73 rfl ?_
      refine go_iconst (v := 0) dRef_begin_74 (by decide) ?_
      refine go_zast dRef_begin_75 ((pmU_n _ _ (by omega)).trans hR.2.2.2.2.2.2.2.2.2.2.2.2.2.2.2.2) (by exact vp_in_nI (by omega) (by omega)) (nI_clamp (by omega)) (by simp) ?_
      refine go_iinc dRef_begin_76 rfl (congrArg (_ + ·) lit1) ?_
      refine go_goto (tgt := 57) dRef_begin_79 ?_
      refine go_nm (fun hnk1 enk1 => ?_)
      have gsk1 : Sm h hnk1 m 17 := by rw [enk1]; exact (Sm.put' (Sm.put' (Sm.refl _ _ _) _ (by omega) (by omega)) _ (by omega) (by omega))
      have hRk1 : RfA hnk1 m (g) ((uA (uA A 8 (upd f8 i ((fun _ => -1) i))) 15 (upd f15 i ((fun _ => 0) i)))) := ⟨(congrFun enk1 m).trans ((pmU_n _ _ (by omega)).trans ((pmU_n _ _ (by omega)).trans hR.1)), (congrFun enk1 (m + 1)).trans ((pmU_n _ _ (by omega)).trans ((pmU_n _ _ (by omega)).trans hR.2.1)), (congrFun enk1 (m + 2)).trans ((pmU_n _ _ (by omega)).trans ((pmU_n _ _ (by omega)).trans hR.2.2.1)), (congrFun enk1 (m + 3)).trans ((pmU_n _ _ (by omega)).trans ((pmU_n _ _ (by omega)).trans hR.2.2.2.1)), (congrFun enk1 (m + 4)).trans ((pmU_n _ _ (by omega)).trans ((pmU_n _ _ (by omega)).trans hR.2.2.2.2.1)), (congrFun enk1 (m + 5)).trans ((pmU_n _ _ (by omega)).trans ((pmU_n _ _ (by omega)).trans hR.2.2.2.2.2.1)), (congrFun enk1 (m + 6)).trans ((pmU_n _ _ (by omega)).trans ((pmU_n _ _ (by omega)).trans hR.2.2.2.2.2.2.1)), (congrFun enk1 (m + 7)).trans ((pmU_n _ _ (by omega)).trans ((pmU_n _ _ (by omega)).trans hR.2.2.2.2.2.2.2.1)), (congrFun enk1 (m + 8)).trans ((pmU_n _ _ (by omega)).trans ((pmU_n _ _ (by omega)).trans hR.2.2.2.2.2.2.2.2.1)), (congrFun enk1 (m + 9)).trans ((pmU_n _ _ (by omega)).trans (pmU_s _ _ _)), (congrFun enk1 (m + 10)).trans ((pmU_n _ _ (by omega)).trans ((pmU_n _ _ (by omega)).trans hR.2.2.2.2.2.2.2.2.2.2.1)), (congrFun enk1 (m + 11)).trans ((pmU_n _ _ (by omega)).trans ((pmU_n _ _ (by omega)).trans hR.2.2.2.2.2.2.2.2.2.2.2.1)), (congrFun enk1 (m + 12)).trans ((pmU_n _ _ (by omega)).trans ((pmU_n _ _ (by omega)).trans hR.2.2.2.2.2.2.2.2.2.2.2.2.1)), (congrFun enk1 (m + 13)).trans ((pmU_n _ _ (by omega)).trans ((pmU_n _ _ (by omega)).trans hR.2.2.2.2.2.2.2.2.2.2.2.2.2.1)), (congrFun enk1 (m + 14)).trans ((pmU_n _ _ (by omega)).trans ((pmU_n _ _ (by omega)).trans hR.2.2.2.2.2.2.2.2.2.2.2.2.2.2.1)), (congrFun enk1 (m + 15)).trans ((pmU_n _ _ (by omega)).trans ((pmU_n _ _ (by omega)).trans hR.2.2.2.2.2.2.2.2.2.2.2.2.2.2.2.1)), (congrFun enk1 (m + 16)).trans (pmU_s _ _ _)⟩
      have sk1 := hs.trans gsk1
      exact go_at (ih (i + 1) (upd f8 i ((fun _ => -1) i)) (upd f15 i ((fun _ => 0) i)) _ _ (by omega) hRk1 (upS1 e8) (upS1 e15) sk1 hk) rfl (by rw [nI_succ i]; rfl) rfl rfl
set_option maxHeartbeats 4000000 in
theorem l_Ref_beg3 {E : pmEv} {h0 h : pmH} {z : Option Nat} {d : Bool} {m : Nat} {g : Nat → Int32} {A : Nat → Nat → Int32} {o : Bool × aPic} {w p : aRow} {S : aRs} {f8 f15 : Nat → Int32} (h8 : ∀ k, k < 3 → f8 k = -1) (h15 : ∀ k, k < 3 → f15 k = 0) (hb : RB g A o w p) (hp : p.2 ≤ 2000) (hR : RfA h m (upd (upd (upd (upd (upd (upd (upd (upd (upd (upd (upd g 28 0) 14 0) 20 0) 23 0) 27 0) 35 0) 36 0) 37 0) 38 0) 39 0) 40 0) (uA (uA A 8 f8) 15 f15)) (hs : Sm h0 h m 17) {gd : Int32} (hg : Gd gd (hasM p)) : Go E (mRef_begin, h0, 0, 0) 134 [some (.ref m), some (.int gd), none] [] (h, z, d) 0 0 (RetX none (BgP m h0 o w p S) z) := by
  refine go_aload_n dRef_begin_134 rfl ?_
  refine go_iload_n dRef_begin_135 rfl ?_
  refine go_if_ne (tgt := 143) dRef_begin_136 (fun c1 => ?_) (fun c1 => ?_)
  · refine go_iconst (v := 0) dRef_begin_143 (by decide) ?_
    refine go_iconst (v := 1) dRef_begin_144 (by decide) ?_
    refine go_iconst (v := 0) dRef_begin_145 (by decide) ?_
    refine go_virtP dRef_begin_146 ok_mRef_breakBy im_mRef_breakBy se_mRef_breakBy qm_Ref_280 hR.1 (r_brk0 hR) ?_ (hnp := np_mRef_breakBy)
    refine go_vret dRef_begin_149 rfl ?_ (Nat.le_of_ble_eq_true rfl) (Nat.le_of_ble_eq_true rfl)
    exact retX ⟨_, _, hR, hs, hb, Or.inl ⟨hg.yes c1, RG.beg (hg.yes c1) h8 h15⟩⟩
  · refine go_iconst (v := 1) dRef_begin_139 (by decide) ?_
    refine go_goto (tgt := 144) dRef_begin_140 ?_
    refine go_iconst (v := 1) dRef_begin_144 (by decide) ?_
    refine go_iconst (v := 0) dRef_begin_145 (by decide) ?_
    refine go_virtX dRef_begin_146 ok_mRef_breakBy im_mRef_breakBy se_mRef_breakBy qm_Ref_280 hR.1 (r_brk1 (g := (upd (upd (upd (upd (upd (upd (upd (upd (upd (upd (upd g 28 0) 14 0) 20 0) 23 0) 27 0) 35 0) 36 0) 37 0) 38 0) 39 0) 40 0)) rfl hR) (fun hx2 d2 q2 => ?_) (hnp := np_mRef_breakBy)
    obtain ⟨hR2, t2⟩ := q2
    have s2 := hs.trans t2
    refine go_vret dRef_begin_149 rfl ?_ (Nat.le_of_ble_eq_true rfl) (Nat.le_of_ble_eq_true rfl)
    exact retX ⟨_, _, hR2, s2, hb, Or.inr ⟨fun q => (hg.elim (fun y => absurd (y.1.symm.trans c1) (by decide)) (fun y => y.2)) q, rfl, rfl⟩⟩
set_option maxHeartbeats 4000000 in
theorem l_Ref_beg2 {E : pmEv} {h0 h : pmH} {z : Option Nat} {d : Bool} {m : Nat} {g : Nat → Int32} {A : Nat → Nat → Int32} {o : Bool × aPic} {w p : aRow} {S : aRs} {f8 f15 : Nat → Int32} (h8 : ∀ k, k < 3 → f8 k = -1) (h15 : ∀ k, k < 3 → f15 k = 0) (hb : RB g A o w p) (hp : p.2 ≤ 2000) (hR : RfA h m (upd (upd (upd (upd (upd (upd (upd (upd (upd (upd (upd g 28 0) 14 0) 20 0) 23 0) 27 0) 35 0) 36 0) 37 0) 38 0) 39 0) 40 0) (uA (uA A 8 f8) 15 f15)) (hs : Sm h0 h m 17) : ∀ (n : Nat) (k : Nat) (gd : Int32), k + n = 8 → Gd gd (8 ≤ p.2 ∧ ∀ i, i < k → p.1 i = bM i) → Go E (mRef_begin, h0, 0, 0) 99 [some (.ref m), some (.int gd), some (.int (nI (k)))] [] (h, z, d) 0 0 (RetX none (BgP m h0 o w p S) z) := by
  intro n
  induction n with
  | zero =>
    intro k gd hk hg
    refine go_iload_n dRef_begin_99 rfl ?_
    refine go_bipush (v := 8) dRef_begin_100 (by decide) ?_
    refine go_icmp_ge (tgt := 134) dRef_begin_102 (fun c1 => ?_) (fun c1 => ?_)
    · refine go_fg 2 ?_
      exact l_Ref_beg3 h8 h15 hb hp hR hs (by
        obtain rfl : k = 8 := by omega
        exact hg)
    · exact absurd (nI_le (a := 8) (b := k) (by omega) (by omega)) c1
  | succ n ih =>
    intro k gd hk hg
    refine go_iload_n dRef_begin_99 rfl ?_
    refine go_bipush (v := 8) dRef_begin_100 (by decide) ?_
    refine go_icmp_ge (tgt := 134) dRef_begin_102 (fun c1 => ?_) (fun c1 => ?_)
    · exact absurd c1 (nI_ge (a := k) (b := 8) (by omega) (by omega))
    · refine go_iload_n dRef_begin_105 rfl ?_
      refine go_if_eq (tgt := 134) dRef_begin_106 (fun c2 => ?_) (fun c2 => ?_)
      · refine go_fg 2 ?_
        exact l_Ref_beg3 h8 h15 hb hp hR hs (hg.elim (fun y => absurd (y.1.symm.trans c2) (by decide)) (fun y => Or.inr ⟨y.1, fun q => y.2 ⟨q.1, fun i hi => q.2 i (by omega)⟩⟩))
      · have h8p := (hg.yes c2).1
        refine go_aload_n dRef_begin_109 rfl ?_
        refine go_getf dRef_begin_110 qf_Ref_49 hR.1 rfl ?_
        refine go_iload_n dRef_begin_113 rfl ?_
        refine go_iald dRef_begin_114 hR.2.2.2.2.2.2.2.2.2.2.2.2.2.2.1 (by exact vp_in_nI (by omega) (by omega)) (congrArg _ (nI_clamp (by omega))) ?_
        refine go_top (y := p.1 k) (by exact hb.2.2.1.2 _ (by omega)) ?_
        refine go_iload_n dRef_begin_115 rfl ?_
        refine go_statP dRef_begin_116 ok_mRef_mark st_mRef_mark qm_Ref_182 (r_mark (k := k) (by omega)) ?_ (hnp := np_mRef_mark)
        refine go_icmp_ne (tgt := 126) dRef_begin_119 (fun c3 => ?_) (fun c3 => ?_)
        · refine go_iconst (v := 0) dRef_begin_126 (by decide) ?_
          refine go_istore_n dRef_begin_127 ?_
          refine go_iinc dRef_begin_128 rfl (congrArg (_ + ·) lit1) ?_
          refine go_goto (tgt := 99) dRef_begin_131 ?_
          exact go_at (ih (k + 1) 0 (by omega) (Or.inr ⟨rfl, fun q => c3 (q.2 k (by omega))⟩)) rfl (by rw [nI_succ k]; rfl) rfl rfl
        · refine go_iconst (v := 1) dRef_begin_122 (by decide) ?_
          refine go_goto (tgt := 127) dRef_begin_123 ?_
          refine go_istore_n dRef_begin_127 ?_
          refine go_iinc dRef_begin_128 rfl (congrArg (_ + ·) lit1) ?_
          refine go_goto (tgt := 99) dRef_begin_131 ?_
          exact go_at (ih (k + 1) 1 (by omega) (Or.inl ⟨rfl, (hg.yes c2).1, allS1 (hg.yes c2).2 c3⟩)) rfl (by rw [nI_succ k]; rfl) rfl rfl
set_option maxHeartbeats 4000000 in
theorem r_begin {E : pmEv} {h : pmH} {z : Option Nat} {m : Nat} {g : Nat → Int32} {A : Nat → Nat → Int32} {o : Bool × aPic} {w p : aRow} {S : aRs} (hb : RB g A o w p) (hp : p.2 ≤ 2000) (hR : RfA h m g A) : Call E mRef_begin [.ref m] h z 0 0 (RetX none (BgP m h o w p S) z) := by
  have hs : Sm h h m 17 := Sm.refl _ _ _
  refine call_of (L := [some (.ref m), none, none]) ok_mRef_begin (Nat.le_of_ble_eq_true rfl) ?_
  refine go_aload_n dRef_begin_0 rfl ?_
  refine go_iconst (v := 0) dRef_begin_1 (by decide) ?_
  refine go_putf dRef_begin_2 qf_Ref_206 pw_8_28 hR.1 rfl rfl ?_
  refine go_aload_n dRef_begin_5 rfl ?_
  refine go_iconst (v := 0) dRef_begin_6 (by decide) ?_
  refine go_putf dRef_begin_7 qf_Ref_274 pw_8_14 (pmU_s _ _ _) rfl rfl ?_
  refine go_aload_n dRef_begin_10 rfl ?_
  refine go_iconst (v := 0) dRef_begin_11 (by decide) ?_
  refine go_putf dRef_begin_12 qf_Ref_242 pw_8_20 (pmU_s _ _ _) rfl rfl ?_
  refine go_aload_n dRef_begin_15 rfl ?_
  refine go_iconst (v := 0) dRef_begin_16 (by decide) ?_
  refine go_putf dRef_begin_17 qf_Ref_248 pw_8_23 (pmU_s _ _ _) rfl rfl ?_
  refine go_aload_n dRef_begin_20 rfl ?_
  refine go_iconst (v := 0) dRef_begin_21 (by decide) ?_
  refine go_putf dRef_begin_22 qf_Ref_277 pw_8_27 (pmU_s _ _ _) rfl rfl ?_
  refine go_aload_n dRef_begin_25 rfl ?_
  refine go_iconst (v := 0) dRef_begin_26 (by decide) ?_
  refine go_putf dRef_begin_27 qf_Ref_245 pw_8_35 (pmU_s _ _ _) rfl rfl ?_
  refine go_aload_n dRef_begin_30 rfl ?_
  refine go_iconst (v := 0) dRef_begin_31 (by decide) ?_
  refine go_putf dRef_begin_32 qf_Ref_212 pw_8_36 (pmU_s _ _ _) rfl rfl ?_
  refine go_aload_n dRef_begin_35 rfl ?_
  refine go_iconst (v := 0) dRef_begin_36 (by decide) ?_
  refine go_putf dRef_begin_37 qf_Ref_221 pw_8_37 (pmU_s _ _ _) rfl rfl ?_
  refine go_aload_n dRef_begin_40 rfl ?_
  refine go_iconst (v := 0) dRef_begin_41 (by decide) ?_
  refine go_putf dRef_begin_42 qf_Ref_227 pw_8_38 (pmU_s _ _ _) rfl rfl ?_
  refine go_aload_n dRef_begin_45 rfl ?_
  refine go_iconst (v := 0) dRef_begin_46 (by decide) ?_
  refine go_putf dRef_begin_47 qf_Ref_218 pw_8_39 (pmU_s _ _ _) rfl rfl ?_
  refine go_aload_n dRef_begin_50 rfl ?_
  refine go_iconst (v := 0) dRef_begin_51 (by decide) ?_
  refine go_putf dRef_begin_52 qf_Ref_230 pw_8_40 (pmU_s _ _ _) rfl rfl ?_
  refine go_iconst (v := 0) dRef_begin_55 (by decide) ?_
  refine go_istore_n dRef_begin_56 ?_
  refine go_nm (fun hnk1 enk1 => ?_)
  have gsk1 : Sm h hnk1 m 17 := by rw [enk1]; exact (Sm.put' (Sm.put' (Sm.put' (Sm.put' (Sm.put' (Sm.put' (Sm.put' (Sm.put' (Sm.put' (Sm.put' (Sm.put' (Sm.refl _ _ _) _ (by omega) (by omega)) _ (by omega) (by omega)) _ (by omega) (by omega)) _ (by omega) (by omega)) _ (by omega) (by omega)) _ (by omega) (by omega)) _ (by omega) (by omega)) _ (by omega) (by omega)) _ (by omega) (by omega)) _ (by omega) (by omega)) _ (by omega) (by omega))
  have hRk1 : RfA hnk1 m ((upd (upd (upd (upd (upd (upd (upd (upd (upd (upd (upd g 28 0) 14 0) 20 0) 23 0) 27 0) 35 0) 36 0) 37 0) 38 0) 39 0) 40 0)) (A) := ⟨(congrFun enk1 m).trans (pmU_s _ _ _), (congrFun enk1 (m + 1)).trans ((pmU_n _ _ (by omega)).trans ((pmU_n _ _ (by omega)).trans ((pmU_n _ _ (by omega)).trans ((pmU_n _ _ (by omega)).trans ((pmU_n _ _ (by omega)).trans ((pmU_n _ _ (by omega)).trans ((pmU_n _ _ (by omega)).trans ((pmU_n _ _ (by omega)).trans ((pmU_n _ _ (by omega)).trans ((pmU_n _ _ (by omega)).trans ((pmU_n _ _ (by omega)).trans hR.2.1))))))))))), (congrFun enk1 (m + 2)).trans ((pmU_n _ _ (by omega)).trans ((pmU_n _ _ (by omega)).trans ((pmU_n _ _ (by omega)).trans ((pmU_n _ _ (by omega)).trans ((pmU_n _ _ (by omega)).trans ((pmU_n _ _ (by omega)).trans ((pmU_n _ _ (by omega)).trans ((pmU_n _ _ (by omega)).trans ((pmU_n _ _ (by omega)).trans ((pmU_n _ _ (by omega)).trans ((pmU_n _ _ (by omega)).trans hR.2.2.1))))))))))), (congrFun enk1 (m + 3)).trans ((pmU_n _ _ (by omega)).trans ((pmU_n _ _ (by omega)).trans ((pmU_n _ _ (by omega)).trans ((pmU_n _ _ (by omega)).trans ((pmU_n _ _ (by omega)).trans ((pmU_n _ _ (by omega)).trans ((pmU_n _ _ (by omega)).trans ((pmU_n _ _ (by omega)).trans ((pmU_n _ _ (by omega)).trans ((pmU_n _ _ (by omega)).trans ((pmU_n _ _ (by omega)).trans hR.2.2.2.1))))))))))), (congrFun enk1 (m + 4)).trans ((pmU_n _ _ (by omega)).trans ((pmU_n _ _ (by omega)).trans ((pmU_n _ _ (by omega)).trans ((pmU_n _ _ (by omega)).trans ((pmU_n _ _ (by omega)).trans ((pmU_n _ _ (by omega)).trans ((pmU_n _ _ (by omega)).trans ((pmU_n _ _ (by omega)).trans ((pmU_n _ _ (by omega)).trans ((pmU_n _ _ (by omega)).trans ((pmU_n _ _ (by omega)).trans hR.2.2.2.2.1))))))))))), (congrFun enk1 (m + 5)).trans ((pmU_n _ _ (by omega)).trans ((pmU_n _ _ (by omega)).trans ((pmU_n _ _ (by omega)).trans ((pmU_n _ _ (by omega)).trans ((pmU_n _ _ (by omega)).trans ((pmU_n _ _ (by omega)).trans ((pmU_n _ _ (by omega)).trans ((pmU_n _ _ (by omega)).trans ((pmU_n _ _ (by omega)).trans ((pmU_n _ _ (by omega)).trans ((pmU_n _ _ (by omega)).trans hR.2.2.2.2.2.1))))))))))), (congrFun enk1 (m + 6)).trans ((pmU_n _ _ (by omega)).trans ((pmU_n _ _ (by omega)).trans ((pmU_n _ _ (by omega)).trans ((pmU_n _ _ (by omega)).trans ((pmU_n _ _ (by omega)).trans ((pmU_n _ _ (by omega)).trans ((pmU_n _ _ (by omega)).trans ((pmU_n _ _ (by omega)).trans ((pmU_n _ _ (by omega)).trans ((pmU_n _ _ (by omega)).trans ((pmU_n _ _ (by omega)).trans hR.2.2.2.2.2.2.1))))))))))), (congrFun enk1 (m + 7)).trans ((pmU_n _ _ (by omega)).trans ((pmU_n _ _ (by omega)).trans ((pmU_n _ _ (by omega)).trans ((pmU_n _ _ (by omega)).trans ((pmU_n _ _ (by omega)).trans ((pmU_n _ _ (by omega)).trans ((pmU_n _ _ (by omega)).trans ((pmU_n _ _ (by omega)).trans ((pmU_n _ _ (by omega)).trans ((pmU_n _ _ (by omega)).trans ((pmU_n _ _ (by omega)).trans hR.2.2.2.2.2.2.2.1))))))))))), (congrFun enk1 (m + 8)).trans ((pmU_n _ _ (by omega)).trans ((pmU_n _ _ (by omega)).trans ((pmU_n _ _ (by omega)).trans ((pmU_n _ _ (by omega)).trans ((pmU_n _ _ (by omega)).trans ((pmU_n _ _ (by omega)).trans ((pmU_n _ _ (by omega)).trans ((pmU_n _ _ (by omega)).trans ((pmU_n _ _ (by omega)).trans ((pmU_n _ _ (by omega)).trans ((pmU_n _ _ (by omega)).trans hR.2.2.2.2.2.2.2.2.1))))))))))), (congrFun enk1 (m + 9)).trans ((pmU_n _ _ (by omega)).trans ((pmU_n _ _ (by omega)).trans ((pmU_n _ _ (by omega)).trans ((pmU_n _ _ (by omega)).trans ((pmU_n _ _ (by omega)).trans ((pmU_n _ _ (by omega)).trans ((pmU_n _ _ (by omega)).trans ((pmU_n _ _ (by omega)).trans ((pmU_n _ _ (by omega)).trans ((pmU_n _ _ (by omega)).trans ((pmU_n _ _ (by omega)).trans hR.2.2.2.2.2.2.2.2.2.1))))))))))), (congrFun enk1 (m + 10)).trans ((pmU_n _ _ (by omega)).trans ((pmU_n _ _ (by omega)).trans ((pmU_n _ _ (by omega)).trans ((pmU_n _ _ (by omega)).trans ((pmU_n _ _ (by omega)).trans ((pmU_n _ _ (by omega)).trans ((pmU_n _ _ (by omega)).trans ((pmU_n _ _ (by omega)).trans ((pmU_n _ _ (by omega)).trans ((pmU_n _ _ (by omega)).trans ((pmU_n _ _ (by omega)).trans hR.2.2.2.2.2.2.2.2.2.2.1))))))))))), (congrFun enk1 (m + 11)).trans ((pmU_n _ _ (by omega)).trans ((pmU_n _ _ (by omega)).trans ((pmU_n _ _ (by omega)).trans ((pmU_n _ _ (by omega)).trans ((pmU_n _ _ (by omega)).trans ((pmU_n _ _ (by omega)).trans ((pmU_n _ _ (by omega)).trans ((pmU_n _ _ (by omega)).trans ((pmU_n _ _ (by omega)).trans ((pmU_n _ _ (by omega)).trans ((pmU_n _ _ (by omega)).trans hR.2.2.2.2.2.2.2.2.2.2.2.1))))))))))), (congrFun enk1 (m + 12)).trans ((pmU_n _ _ (by omega)).trans ((pmU_n _ _ (by omega)).trans ((pmU_n _ _ (by omega)).trans ((pmU_n _ _ (by omega)).trans ((pmU_n _ _ (by omega)).trans ((pmU_n _ _ (by omega)).trans ((pmU_n _ _ (by omega)).trans ((pmU_n _ _ (by omega)).trans ((pmU_n _ _ (by omega)).trans ((pmU_n _ _ (by omega)).trans ((pmU_n _ _ (by omega)).trans hR.2.2.2.2.2.2.2.2.2.2.2.2.1))))))))))), (congrFun enk1 (m + 13)).trans ((pmU_n _ _ (by omega)).trans ((pmU_n _ _ (by omega)).trans ((pmU_n _ _ (by omega)).trans ((pmU_n _ _ (by omega)).trans ((pmU_n _ _ (by omega)).trans ((pmU_n _ _ (by omega)).trans ((pmU_n _ _ (by omega)).trans ((pmU_n _ _ (by omega)).trans ((pmU_n _ _ (by omega)).trans ((pmU_n _ _ (by omega)).trans ((pmU_n _ _ (by omega)).trans hR.2.2.2.2.2.2.2.2.2.2.2.2.2.1))))))))))), (congrFun enk1 (m + 14)).trans ((pmU_n _ _ (by omega)).trans ((pmU_n _ _ (by omega)).trans ((pmU_n _ _ (by omega)).trans ((pmU_n _ _ (by omega)).trans ((pmU_n _ _ (by omega)).trans ((pmU_n _ _ (by omega)).trans ((pmU_n _ _ (by omega)).trans ((pmU_n _ _ (by omega)).trans ((pmU_n _ _ (by omega)).trans ((pmU_n _ _ (by omega)).trans ((pmU_n _ _ (by omega)).trans hR.2.2.2.2.2.2.2.2.2.2.2.2.2.2.1))))))))))), (congrFun enk1 (m + 15)).trans ((pmU_n _ _ (by omega)).trans ((pmU_n _ _ (by omega)).trans ((pmU_n _ _ (by omega)).trans ((pmU_n _ _ (by omega)).trans ((pmU_n _ _ (by omega)).trans ((pmU_n _ _ (by omega)).trans ((pmU_n _ _ (by omega)).trans ((pmU_n _ _ (by omega)).trans ((pmU_n _ _ (by omega)).trans ((pmU_n _ _ (by omega)).trans ((pmU_n _ _ (by omega)).trans hR.2.2.2.2.2.2.2.2.2.2.2.2.2.2.2.1))))))))))), (congrFun enk1 (m + 16)).trans ((pmU_n _ _ (by omega)).trans ((pmU_n _ _ (by omega)).trans ((pmU_n _ _ (by omega)).trans ((pmU_n _ _ (by omega)).trans ((pmU_n _ _ (by omega)).trans ((pmU_n _ _ (by omega)).trans ((pmU_n _ _ (by omega)).trans ((pmU_n _ _ (by omega)).trans ((pmU_n _ _ (by omega)).trans ((pmU_n _ _ (by omega)).trans ((pmU_n _ _ (by omega)).trans hR.2.2.2.2.2.2.2.2.2.2.2.2.2.2.2.2)))))))))))⟩
  have sk1 := hs.trans gsk1
  refine l_Ref_beg1 3 0 (A 8) (A 15) _ _ (by omega) hRk1 (fun k hk => absurd hk (by omega)) (fun k hk => absurd hk (by omega)) sk1 (fun hx2 dx2 f8 f15 hR2 h8 h15 hs2 => ?_)
  refine go_aload_n dRef_begin_82 rfl ?_
  refine go_getf dRef_begin_83 qf_Ref_196 hR2.1 rfl ?_
  refine go_top (y := nI p.2) (by exact hb.2.2.1.1) ?_
  refine go_bipush (v := 8) dRef_begin_86 (by decide) ?_
  refine go_icmp_lt (tgt := 95) dRef_begin_88 (fun c1 => ?_) (fun c1 => ?_)
  · refine go_iconst (v := 0) dRef_begin_95 (by decide) ?_
    refine go_istore_n dRef_begin_96 ?_
    refine go_iconst (v := 0) dRef_begin_97 (by decide) ?_
    refine go_istore_n dRef_begin_98 ?_
    exact l_Ref_beg2 h8 h15 hb hp hR2 hs2 8 0 0 (by omega) (Or.inr ⟨rfl, fun q => absurd (nI_le (a := 8) q.1 (by omega)) (Int32.not_le.mpr c1)⟩)
  · refine go_iconst (v := 1) dRef_begin_91 (by decide) ?_
    refine go_goto (tgt := 96) dRef_begin_92 ?_
    refine go_istore_n dRef_begin_96 ?_
    refine go_iconst (v := 0) dRef_begin_97 (by decide) ?_
    refine go_istore_n dRef_begin_98 ?_
    exact l_Ref_beg2 h8 h15 hb hp hR2 hs2 8 0 1 (by omega) (Or.inl ⟨rfl, (nI_leI (a := 8) (by omega) (by omega)).mp (Int32.not_lt.mp c1), fun i hi => absurd hi (by omega)⟩)
set_option maxHeartbeats 4000000 in
theorem l_Ref_rd66 {E : pmEv} {h0 h : pmH} {z : Option Nat} {d : Bool} {m : Nat} {g : Nat → Int32} {A : Nat → Nat → Int32} {o : Bool × aPic} {w p : aRow} {F : Int32 × Nat × aRs} {a c v : Int32} (hb : RB g A o w p) (h28 : g 28 = F.1) (h33 : ¬ F.1 = 0 → g 33 = nI F.2.1) (hw : F.1 = 0 → c = F.2.2.2.2 3 ∧ RP g A F.2.2.1.2 ∧ IvP F.2.2.1.2 ∧ F.2.2.1.1 = true ∧ g 27 = F.2.2.2.2 4) (hR : RfA h m g A) (hs : Sm h0 h m 17) : Go E (mRef_read, h0, 0, 0) 66 [some (.ref m), some (.int a), some (.int c), some (.int v)] [] (h, z, d) 0 0 (RetX (some (.int (rdV F))) (RdQ m h0 o w p F) z) := by
  refine go_aload_n dRef_read_66 rfl ?_
  refine go_aload_n dRef_read_67 rfl ?_
  refine go_getf dRef_read_68 qf_Ref_206 hR.1 rfl ?_
  refine go_top (y := F.1) (by exact h28) ?_
  refine go_if_ne (tgt := 78) dRef_read_71 (fun c1 => ?_) (fun c1 => ?_)
  · refine go_iconst (v := 0) dRef_read_78 (by decide) ?_
    refine go_putf dRef_read_79 qf_Ref_274 pw_8_14 hR.1 rfl rfl ?_
    refine go_nm (fun hnk1 enk1 => ?_)
    have gsk1 : Sm h hnk1 m 17 := by rw [enk1]; exact (Sm.put' (Sm.refl _ _ _) _ (by omega) (by omega))
    have hRk1 : RfA hnk1 m (upd g 14 0) (A) := ⟨(congrFun enk1 m).trans (pmU_s _ _ _), (congrFun enk1 (m + 1)).trans ((pmU_n _ _ (by omega)).trans hR.2.1), (congrFun enk1 (m + 2)).trans ((pmU_n _ _ (by omega)).trans hR.2.2.1), (congrFun enk1 (m + 3)).trans ((pmU_n _ _ (by omega)).trans hR.2.2.2.1), (congrFun enk1 (m + 4)).trans ((pmU_n _ _ (by omega)).trans hR.2.2.2.2.1), (congrFun enk1 (m + 5)).trans ((pmU_n _ _ (by omega)).trans hR.2.2.2.2.2.1), (congrFun enk1 (m + 6)).trans ((pmU_n _ _ (by omega)).trans hR.2.2.2.2.2.2.1), (congrFun enk1 (m + 7)).trans ((pmU_n _ _ (by omega)).trans hR.2.2.2.2.2.2.2.1), (congrFun enk1 (m + 8)).trans ((pmU_n _ _ (by omega)).trans hR.2.2.2.2.2.2.2.2.1), (congrFun enk1 (m + 9)).trans ((pmU_n _ _ (by omega)).trans hR.2.2.2.2.2.2.2.2.2.1), (congrFun enk1 (m + 10)).trans ((pmU_n _ _ (by omega)).trans hR.2.2.2.2.2.2.2.2.2.2.1), (congrFun enk1 (m + 11)).trans ((pmU_n _ _ (by omega)).trans hR.2.2.2.2.2.2.2.2.2.2.2.1), (congrFun enk1 (m + 12)).trans ((pmU_n _ _ (by omega)).trans hR.2.2.2.2.2.2.2.2.2.2.2.2.1), (congrFun enk1 (m + 13)).trans ((pmU_n _ _ (by omega)).trans hR.2.2.2.2.2.2.2.2.2.2.2.2.2.1), (congrFun enk1 (m + 14)).trans ((pmU_n _ _ (by omega)).trans hR.2.2.2.2.2.2.2.2.2.2.2.2.2.2.1), (congrFun enk1 (m + 15)).trans ((pmU_n _ _ (by omega)).trans hR.2.2.2.2.2.2.2.2.2.2.2.2.2.2.2.1), (congrFun enk1 (m + 16)).trans ((pmU_n _ _ (by omega)).trans hR.2.2.2.2.2.2.2.2.2.2.2.2.2.2.2.2)⟩
    have sk1 := hs.trans gsk1
    refine go_aload_n dRef_read_82 rfl ?_
    refine go_getf dRef_read_83 qf_Ref_274 hRk1.1 rfl ?_
    refine go_top (y := 0) (by rfl) ?_
    refine go_if_eq (tgt := 93) dRef_read_86 (fun _ => ?_) (fun cc => absurd (by decide) cc)
    refine go_iconst (v := -1) dRef_read_93 (by decide) ?_
    refine go_aload_n dRef_read_94 rfl ?_
    refine go_getf dRef_read_95 qf_Ref_209 hRk1.1 rfl ?_
    refine go_isub dRef_read_98 ?_
    refine go_iret dRef_read_99 rfl rfl ?_ (Nat.le_of_ble_eq_true rfl) (Nat.le_of_ble_eq_true rfl)
    exact retX_e (by rw [rdV, if_neg c1, ← h33 c1]; rfl) ⟨⟨_, _, hRk1, hb, h28, (bI_f c1).symm, fun q => absurd q c1⟩, sk1⟩
  · refine go_iconst (v := 1) dRef_read_74 (by decide) ?_
    refine go_goto (tgt := 79) dRef_read_75 ?_
    refine go_putf dRef_read_79 qf_Ref_274 pw_8_14 hR.1 rfl rfl ?_
    refine go_nm (fun hnk2 enk2 => ?_)
    have gsk2 : Sm h hnk2 m 17 := by rw [enk2]; exact (Sm.put' (Sm.refl _ _ _) _ (by omega) (by omega))
    have hRk2 : RfA hnk2 m (upd g 14 1) (A) := ⟨(congrFun enk2 m).trans (pmU_s _ _ _), (congrFun enk2 (m + 1)).trans ((pmU_n _ _ (by omega)).trans hR.2.1), (congrFun enk2 (m + 2)).trans ((pmU_n _ _ (by omega)).trans hR.2.2.1), (congrFun enk2 (m + 3)).trans ((pmU_n _ _ (by omega)).trans hR.2.2.2.1), (congrFun enk2 (m + 4)).trans ((pmU_n _ _ (by omega)).trans hR.2.2.2.2.1), (congrFun enk2 (m + 5)).trans ((pmU_n _ _ (by omega)).trans hR.2.2.2.2.2.1), (congrFun enk2 (m + 6)).trans ((pmU_n _ _ (by omega)).trans hR.2.2.2.2.2.2.1), (congrFun enk2 (m + 7)).trans ((pmU_n _ _ (by omega)).trans hR.2.2.2.2.2.2.2.1), (congrFun enk2 (m + 8)).trans ((pmU_n _ _ (by omega)).trans hR.2.2.2.2.2.2.2.2.1), (congrFun enk2 (m + 9)).trans ((pmU_n _ _ (by omega)).trans hR.2.2.2.2.2.2.2.2.2.1), (congrFun enk2 (m + 10)).trans ((pmU_n _ _ (by omega)).trans hR.2.2.2.2.2.2.2.2.2.2.1), (congrFun enk2 (m + 11)).trans ((pmU_n _ _ (by omega)).trans hR.2.2.2.2.2.2.2.2.2.2.2.1), (congrFun enk2 (m + 12)).trans ((pmU_n _ _ (by omega)).trans hR.2.2.2.2.2.2.2.2.2.2.2.2.1), (congrFun enk2 (m + 13)).trans ((pmU_n _ _ (by omega)).trans hR.2.2.2.2.2.2.2.2.2.2.2.2.2.1), (congrFun enk2 (m + 14)).trans ((pmU_n _ _ (by omega)).trans hR.2.2.2.2.2.2.2.2.2.2.2.2.2.2.1), (congrFun enk2 (m + 15)).trans ((pmU_n _ _ (by omega)).trans hR.2.2.2.2.2.2.2.2.2.2.2.2.2.2.2.1), (congrFun enk2 (m + 16)).trans ((pmU_n _ _ (by omega)).trans hR.2.2.2.2.2.2.2.2.2.2.2.2.2.2.2.2)⟩
    have sk2 := hs.trans gsk2
    refine go_aload_n dRef_read_82 rfl ?_
    refine go_getf dRef_read_83 qf_Ref_274 hRk2.1 rfl ?_
    refine go_top (y := 1) (by rfl) ?_
    refine go_if_eq (tgt := 93) dRef_read_86 (fun cc => absurd cc (by decide)) (fun _ => ?_)
    refine go_iload_n dRef_read_89 rfl ?_
    refine go_goto (tgt := 99) dRef_read_90 ?_
    refine go_iret dRef_read_99 rfl rfl ?_ (Nat.le_of_ble_eq_true rfl) (Nat.le_of_ble_eq_true rfl)
    exact retX_e (by rw [rdV, if_pos c1, (hw c1).1]) ⟨⟨_, _, hRk2, hb, h28, (bI_t c1).symm, fun q => ⟨(hw q).2.1, (hw q).2.2⟩⟩, sk2⟩
set_option maxHeartbeats 4000000 in
theorem l_Ref_rd16 {E : pmEv} {h0 h : pmH} {z : Option Nat} {d : Bool} {m : Nat} {g : Nat → Int32} {A : Nat → Nat → Int32} {o : Bool × aPic} {w p : aRow} {F : Int32 × Nat × aRs} {a c v : Int32} (hx : ¬ F.1 = 0 ∨ 2 ≤ v) (hb : RB g A o w p) (h28 : g 28 = F.1) (h33 : ¬ F.1 = 0 → g 33 = nI F.2.1) (hw : F.1 = 0 → c = F.2.2.2.2 3 ∧ RP g A F.2.2.1.2 ∧ IvP F.2.2.1.2 ∧ F.2.2.1.1 = true ∧ g 27 = F.2.2.2.2 4) (hR : RfA h m g A) (hs : Sm h0 h m 17) : Go E (mRef_read, h0, 0, 0) 16 [some (.ref m), some (.int a), some (.int c), some (.int v)] [] (h, z, d) 0 0 (RetX (some (.int (rdV F))) (RdQ m h0 o w p F) z) := by
  refine go_aload_n dRef_read_16 rfl ?_
  refine go_getf dRef_read_17 qf_Ref_206 hR.1 rfl ?_
  refine go_top (y := F.1) (by exact h28) ?_
  refine go_if_ne (tgt := 66) dRef_read_20 (fun c1 => ?_) (fun c1 => ?_)
  · exact l_Ref_rd66 hb h28 h33 hw hR hs
  · refine go_iload_n dRef_read_23 rfl ?_
    refine go_iconst (v := 2) dRef_read_24 (by decide) ?_
    refine go_icmp_ge (tgt := 66) dRef_read_25 (fun c2 => ?_) (fun c2 => ?_)
    · exact l_Ref_rd66 hb h28 h33 hw hR hs
    · exact absurd (hx.resolve_left (fun q => q c1)) c2
set_option maxHeartbeats 4000000 in
theorem l_Ref_read {E : pmEv} {h0 : pmH} {z : Option Nat} {m : Nat}  {o : Bool × aPic} {w p : aRow} {F : Int32 × Nat × aRs} (hp : p.2 ≤ 2000) (hB : AllB p) : ∀ (n : Nat) (a : Nat) (S : aRs) (v : Int32) (g : Nat → Int32) (A : Nat → Nat → Int32) (h : pmH) (d : Bool), 24008 ≤ a + 12 * n → a ≤ p.2 → RfA h m g A → RB g A o w p → RG g A S a → Sm h0 h m 17 → ¬ 2 ≤ v → F = rdL p n a S → Go E (mRef_read, h0, 0, 0) 16 [some (.ref m), some (.int (nI a)), some (.int (S.2.2 3)), some (.int v)] [] (h, z, d) 0 0 (RetX (some (.int (rdV F))) (RdQ m h0 o w p F) z) := by
  intro n
  induction n with
  | zero =>
    intro a S v g A h d hn ha hR hb hG hs hv hF
    exact absurd hn (by omega)
  | succ n ih =>
    intro a S v g A h d hn ha hR hb hG hs hv hF
    refine go_aload_n dRef_read_16 rfl ?_
    refine go_getf dRef_read_17 qf_Ref_206 hR.1 rfl ?_
    refine go_top (y := 0) (by exact hG.1) ?_
    refine go_if_ne (tgt := 66) dRef_read_20 (fun c1 => ?_) (fun c1 => ?_)
    · exact absurd rfl c1
    · refine go_iload_n dRef_read_23 rfl ?_
      refine go_iconst (v := 2) dRef_read_24 (by decide) ?_
      refine go_icmp_ge (tgt := 66) dRef_read_25 (fun c2 => ?_) (fun c2 => ?_)
      · exact absurd c2 hv
      · refine go_aload_n dRef_read_28 rfl ?_
        refine go_iload_n dRef_read_29 rfl ?_
        refine go_virtV dRef_read_30 ok_mRef_chunk im_mRef_chunk se_mRef_chunk qm_Ref_296 hR.1 (r_chunk (S := S) (by omega) hR hb hG hp hB) (fun v3 hx3 d3 q3 => ?_) (hnp := np_mRef_chunk)
        obtain ⟨g2, A2, hR2, t2, hb2, hq⟩ := q3
        have s2 := hs.trans t2
        rcases hq with ⟨hrc, hq28, hq33⟩ | ⟨hrc, ⟨hx6, hG2, hv2⟩ | ⟨hx6, hv2, ⟨hen, hq28, hq33⟩ | ⟨hen, hq28, hrd, hsm⟩⟩⟩
        · have hF1 : F = (rcV p a S, a, S) := by rw [hF, rdL, if_pos hrc]
          refine go_istore_n dRef_read_33 ?_
          refine go_iload_n dRef_read_34 rfl ?_
          refine go_iload_n dRef_read_35 rfl ?_
          refine go_if_le (tgt := 43) dRef_read_36 (fun c4 => ?_) (fun c4 => ?_)
          · refine go_iconst (v := 0) dRef_read_43 (by decide) ?_
            refine go_iadd dRef_read_44 ?_
            refine go_istore_n dRef_read_45 ?_
            refine go_aload_n dRef_read_46 rfl ?_
            refine go_getf dRef_read_47 qf_Ref_206 hR2.1 rfl ?_
            refine go_if_ne (tgt := 61) dRef_read_50 (fun c5 => ?_) (fun c5 => ?_)
            · refine go_iload_n dRef_read_61 rfl ?_
              refine go_istore_n dRef_read_62 ?_
              refine go_goto (tgt := 16) dRef_read_63 ?_
              exact l_Ref_rd16 (F := F) (Or.inl (by rw [hF1]; exact hrc)) hb2 (by rw [hF1]; exact hq28) (fun _ => by rw [hF1]; exact hq33) (fun y => absurd (by rw [hF1] at y; exact y) hrc) hR2 s2
            · exact absurd c5 (fun y => hrc (hq28.symm.trans y))
          · refine go_iconst (v := 1) dRef_read_39 (by decide) ?_
            refine go_goto (tgt := 44) dRef_read_40 ?_
            refine go_iadd dRef_read_44 ?_
            refine go_istore_n dRef_read_45 ?_
            refine go_aload_n dRef_read_46 rfl ?_
            refine go_getf dRef_read_47 qf_Ref_206 hR2.1 rfl ?_
            refine go_if_ne (tgt := 61) dRef_read_50 (fun c5 => ?_) (fun c5 => ?_)
            · refine go_iload_n dRef_read_61 rfl ?_
              refine go_istore_n dRef_read_62 ?_
              refine go_goto (tgt := 16) dRef_read_63 ?_
              exact l_Ref_rd16 (F := F) (Or.inl (by rw [hF1]; exact hrc)) hb2 (by rw [hF1]; exact hq28) (fun _ => by rw [hF1]; exact hq33) (fun y => absurd (by rw [hF1] at y; exact y) hrc) hR2 s2
            · exact absurd c5 (fun y => hrc (hq28.symm.trans y))
        · have hfr := frV0 (rcV0 hrc)
          obtain ⟨l, hl, el, hfit, -⟩ := hfr
          have hln : lnN p a = l := by rw [lnN, el, nI_clamp (by omega)]
          have henN : enN p a = nI (a + 12 + (fr p.1 a).toNatClampNeg) := by rw [enN, if_neg (by omega), if_neg (by rw [el, nI_clamp (by omega)]; exact fun q => q.elim (fun q => absurd q (nI_pos (by omega))) (fun q => q.elim (fun q => absurd q (Int32.not_lt.mpr (nI_le (b := 255) hl (by omega)))) (fun q => by omega)))]
          by_cases hsm : smW p a
          · rw [if_pos hsm] at hv2
            subst hv2
            refine go_istore_n dRef_read_33 ?_
            refine go_iload_n dRef_read_34 rfl ?_
            refine go_iload_n dRef_read_35 rfl ?_
            refine go_if_le (tgt := 43) dRef_read_36 (fun cc => absurd cc (by decide)) (fun _ => ?_)
            refine go_iconst (v := 1) dRef_read_39 (by decide) ?_
            refine go_goto (tgt := 44) dRef_read_40 ?_
            refine go_iadd dRef_read_44 ?_
            refine go_istore_n dRef_read_45 ?_
            refine go_aload_n dRef_read_46 rfl ?_
            refine go_getf dRef_read_47 qf_Ref_206 hR2.1 rfl ?_
            refine go_top (y := 0) (by exact hG2.1) ?_
            refine go_if_ne (tgt := 61) dRef_read_50 (fun c4 => ?_) (fun c4 => ?_)
            · exact absurd rfl c4
            · refine go_aload_n dRef_read_53 rfl ?_
              refine go_iload_n dRef_read_54 rfl ?_
              refine go_virtP dRef_read_55 ok_mRef_endOf im_mRef_endOf se_mRef_endOf qm_Ref_203 hR2.1 (r_endOf (p := p) (a := a) (by omega) hb2.2.2.1.1 hb2.2.2.1.2 hp hR2) ?_ (hnp := np_mRef_endOf)
              refine go_top (y := nI (a + 12 + lnN p a)) (by rw [lnN]; exact henN) ?_
              refine go_goto (tgt := 62) dRef_read_58 ?_
              refine go_istore_n dRef_read_62 ?_
              refine go_goto (tgt := 16) dRef_read_63 ?_
              exact go_at (ih (a + 12 + lnN p a) (avS ((rcS p a S).1, (rcS p a S).2.1, upd (rcS p a S).2.2 1 0)) 1 g2 A2 _ _ (by omega) (by omega) hR2 hb2 hG2 s2 (by decide) (by rw [hF, rdL, if_neg (fun q => q hrc), if_neg (by rw [rcS_6]; exact hx6)])) rfl (by rw [show (avS ((rcS p a S).1, (rcS p a S).2.1, upd (rcS p a S).2.2 1 0)).2.2 3 = (rcS p a S).2.2 3 from rfl, rcS_3, if_pos hsm]; rfl) rfl rfl
          · rw [if_neg hsm] at hv2
            subst hv2
            refine go_istore_n dRef_read_33 ?_
            refine go_iload_n dRef_read_34 rfl ?_
            refine go_iload_n dRef_read_35 rfl ?_
            refine go_if_le (tgt := 43) dRef_read_36 (fun _ => ?_) (fun cc => absurd (by decide) cc)
            refine go_iconst (v := 0) dRef_read_43 (by decide) ?_
            refine go_iadd dRef_read_44 ?_
            refine go_istore_n dRef_read_45 ?_
            refine go_aload_n dRef_read_46 rfl ?_
            refine go_getf dRef_read_47 qf_Ref_206 hR2.1 rfl ?_
            refine go_top (y := 0) (by exact hG2.1) ?_
            refine go_if_ne (tgt := 61) dRef_read_50 (fun c4 => ?_) (fun c4 => ?_)
            · exact absurd rfl c4
            · refine go_aload_n dRef_read_53 rfl ?_
              refine go_iload_n dRef_read_54 rfl ?_
              refine go_virtP dRef_read_55 ok_mRef_endOf im_mRef_endOf se_mRef_endOf qm_Ref_203 hR2.1 (r_endOf (p := p) (a := a) (by omega) hb2.2.2.1.1 hb2.2.2.1.2 hp hR2) ?_ (hnp := np_mRef_endOf)
              refine go_top (y := nI (a + 12 + lnN p a)) (by rw [lnN]; exact henN) ?_
              refine go_goto (tgt := 62) dRef_read_58 ?_
              refine go_istore_n dRef_read_62 ?_
              refine go_goto (tgt := 16) dRef_read_63 ?_
              exact go_at (ih (a + 12 + lnN p a) (avS ((rcS p a S).1, (rcS p a S).2.1, upd (rcS p a S).2.2 1 0)) 0 g2 A2 _ _ (by omega) (by omega) hR2 hb2 hG2 s2 (by decide) (by rw [hF, rdL, if_neg (fun q => q hrc), if_neg (by rw [rcS_6]; exact hx6)])) rfl (by rw [show (avS ((rcS p a S).1, (rcS p a S).2.1, upd (rcS p a S).2.2 1 0)).2.2 3 = (rcS p a S).2.2 3 from rfl, rcS_3, if_neg hsm]; rfl) rfl rfl
        · have h6 : (rcS p a S).2.2 6 = 1229278788 := rcS_6.trans hx6
          subst hv2
          have hF1 : F = (8, a, S) := by rw [hF, rdL, if_neg (fun q => q hrc), if_pos h6, if_neg hen]
          refine go_istore_n dRef_read_33 ?_
          refine go_iload_n dRef_read_34 rfl ?_
          refine go_iload_n dRef_read_35 rfl ?_
          refine go_if_le (tgt := 43) dRef_read_36 (fun cc => absurd cc (by decide)) (fun _ => ?_)
          refine go_iconst (v := 1) dRef_read_39 (by decide) ?_
          refine go_goto (tgt := 44) dRef_read_40 ?_
          refine go_iadd dRef_read_44 ?_
          refine go_istore_n dRef_read_45 ?_
          refine go_aload_n dRef_read_46 rfl ?_
          refine go_getf dRef_read_47 qf_Ref_206 hR2.1 rfl ?_
          refine go_if_ne (tgt := 61) dRef_read_50 (fun c4 => ?_) (fun c4 => ?_)
          · refine go_iload_n dRef_read_61 rfl ?_
            refine go_istore_n dRef_read_62 ?_
            refine go_goto (tgt := 16) dRef_read_63 ?_
            exact l_Ref_rd16 (F := F) (Or.inl (by rw [hF1]; exact (show ¬ (8 : Int32) = 0 by decide))) hb2 (by rw [hF1]; exact hq28) (fun _ => by rw [hF1]; exact hq33) (fun y => absurd (by rw [hF1] at y; exact y) (show ¬ (8 : Int32) = 0 by decide)) hR2 s2
          · exact absurd (hq28.symm.trans c4) (by decide)
        · have h6 : (rcS p a S).2.2 6 = 1229278788 := rcS_6.trans hx6
          subst hv2
          have hF1 : F = (0, a, enS (rcS p a S)) := by rw [hF, rdL, if_neg (fun q => q hrc), if_pos h6, if_pos hen]
          refine go_istore_n dRef_read_33 ?_
          refine go_iload_n dRef_read_34 rfl ?_
          refine go_iload_n dRef_read_35 rfl ?_
          refine go_if_le (tgt := 43) dRef_read_36 (fun cc => absurd cc (by decide)) (fun _ => ?_)
          refine go_iconst (v := 1) dRef_read_39 (by decide) ?_
          refine go_goto (tgt := 44) dRef_read_40 ?_
          refine go_iadd dRef_read_44 ?_
          refine go_istore_n dRef_read_45 ?_
          refine go_aload_n dRef_read_46 rfl ?_
          refine go_getf dRef_read_47 qf_Ref_206 hR2.1 rfl ?_
          refine go_if_ne (tgt := 61) dRef_read_50 (fun c4 => ?_) (fun c4 => ?_)
          · exact absurd hq28 c4
          · refine go_aload_n dRef_read_53 rfl ?_
            refine go_iload_n dRef_read_54 rfl ?_
            refine go_virtP dRef_read_55 ok_mRef_endOf im_mRef_endOf se_mRef_endOf qm_Ref_203 hR2.1 (r_endOf (p := p) (a := a) (by omega) hb2.2.2.1.1 hb2.2.2.1.2 hp hR2) ?_ (hnp := np_mRef_endOf)
            refine go_goto (tgt := 62) dRef_read_58 ?_
            refine go_istore_n dRef_read_62 ?_
            refine go_goto (tgt := 16) dRef_read_63 ?_
            exact go_at (l_Ref_rd16 (F := F) (c := (rcS p a S).2.2 3) (v := 2) (Or.inr (by decide)) hb2 (by rw [hF1]; exact hq28) (fun y => absurd (by rw [hF1]) y) (fun _ => by rw [hF1]; exact ⟨rfl, hrd.1, hrd.2.1, hrd.2.2.1, hrd.2.2.2⟩) hR2 s2) rfl (by rw [rcS_3, if_pos hsm]; rfl) rfl rfl
set_option maxHeartbeats 4000000 in
theorem r_read {E : pmEv} {h : pmH} {z : Option Nat} {m : Nat} {g : Nat → Int32} {A : Nat → Nat → Int32} {o : Bool × aPic} {w p : aRow} {S : aRs} (ho : RO g A o.1 o.2) (hw : RW g A w) (hf : RF g A p) (hp : p.2 ≤ 2000) (hB : AllB p) (hR : RfA h m g A) : Call E mRef_read [.ref m] h z 0 0 (RetX (some (.int (rdV (rdAll p S)))) (RdQ m h o w p (rdAll p S)) z) := by
  have hs : Sm h h m 17 := Sm.refl _ _ _
  have hb0 : RB (upd g 0 0) A o w p := ⟨ho, hw, hf, rfl⟩
  refine call_of (L := [some (.ref m), none, none, none]) ok_mRef_read (Nat.le_of_ble_eq_true rfl) ?_
  refine go_aload_n dRef_read_0 rfl ?_
  refine go_iconst (v := 0) dRef_read_1 (by decide) ?_
  refine go_putf dRef_read_2 qf_Ref_59 pw_8_0 hR.1 rfl rfl ?_
  refine go_nm (fun hnk1 enk1 => ?_)
  have gsk1 : Sm h hnk1 m 17 := by rw [enk1]; exact (Sm.put' (Sm.refl _ _ _) _ (by omega) (by omega))
  have hRk1 : RfA hnk1 m (upd g 0 0) (A) := ⟨(congrFun enk1 m).trans (pmU_s _ _ _), (congrFun enk1 (m + 1)).trans ((pmU_n _ _ (by omega)).trans hR.2.1), (congrFun enk1 (m + 2)).trans ((pmU_n _ _ (by omega)).trans hR.2.2.1), (congrFun enk1 (m + 3)).trans ((pmU_n _ _ (by omega)).trans hR.2.2.2.1), (congrFun enk1 (m + 4)).trans ((pmU_n _ _ (by omega)).trans hR.2.2.2.2.1), (congrFun enk1 (m + 5)).trans ((pmU_n _ _ (by omega)).trans hR.2.2.2.2.2.1), (congrFun enk1 (m + 6)).trans ((pmU_n _ _ (by omega)).trans hR.2.2.2.2.2.2.1), (congrFun enk1 (m + 7)).trans ((pmU_n _ _ (by omega)).trans hR.2.2.2.2.2.2.2.1), (congrFun enk1 (m + 8)).trans ((pmU_n _ _ (by omega)).trans hR.2.2.2.2.2.2.2.2.1), (congrFun enk1 (m + 9)).trans ((pmU_n _ _ (by omega)).trans hR.2.2.2.2.2.2.2.2.2.1), (congrFun enk1 (m + 10)).trans ((pmU_n _ _ (by omega)).trans hR.2.2.2.2.2.2.2.2.2.2.1), (congrFun enk1 (m + 11)).trans ((pmU_n _ _ (by omega)).trans hR.2.2.2.2.2.2.2.2.2.2.2.1), (congrFun enk1 (m + 12)).trans ((pmU_n _ _ (by omega)).trans hR.2.2.2.2.2.2.2.2.2.2.2.2.1), (congrFun enk1 (m + 13)).trans ((pmU_n _ _ (by omega)).trans hR.2.2.2.2.2.2.2.2.2.2.2.2.2.1), (congrFun enk1 (m + 14)).trans ((pmU_n _ _ (by omega)).trans hR.2.2.2.2.2.2.2.2.2.2.2.2.2.2.1), (congrFun enk1 (m + 15)).trans ((pmU_n _ _ (by omega)).trans hR.2.2.2.2.2.2.2.2.2.2.2.2.2.2.2.1), (congrFun enk1 (m + 16)).trans ((pmU_n _ _ (by omega)).trans hR.2.2.2.2.2.2.2.2.2.2.2.2.2.2.2.2)⟩
  have sk1 := hs.trans gsk1
  refine go_aload_n dRef_read_5 rfl ?_
  refine go_virtX dRef_read_6 ok_mRef_begin im_mRef_begin se_mRef_begin qm_Ref_293 hRk1.1 (r_begin (S := S) hb0 hp hRk1) (fun hx1 d1 q1 => ?_) (hnp := np_mRef_begin)
  refine go_bipush (v := 8) dRef_read_9 (by decide) ?_
  refine go_istore_n dRef_read_11 ?_
  refine go_iconst (v := 0) dRef_read_12 (by decide) ?_
  refine go_istore_n dRef_read_13 ?_
  refine go_iconst (v := 0) dRef_read_14 (by decide) ?_
  refine go_istore_n dRef_read_15 ?_
  obtain ⟨g2, A2, hR2, t2, hb2, hq⟩ := q1
  have s2 := sk1.trans t2
  rcases hq with ⟨hM, hG2⟩ | ⟨hM, h28, h33⟩
  · exact go_at (l_Ref_read (F := rdAll p S) hp hB 2000 8 (bS p S) 0 g2 A2 _ _ (by omega) hM.1 hR2 hb2 hG2 s2 (by decide) (by rw [rdAll, if_pos hM]; rfl)) rfl (by rw [show (bS p S).2.2 3 = 0 by unfold bS begG; rw [if_pos hM]; rfl]; rfl) rfl rfl
  · have hF : rdAll p S = (1, 0, S) := by rw [rdAll, if_neg hM]
    exact l_Ref_rd16 (F := rdAll p S) (Or.inl (by rw [hF]; exact (show ¬ (1 : Int32) = 0 by decide))) hb2 (by rw [hF]; exact h28) (fun _ => by rw [hF]; exact h33) (fun y => absurd (by rw [hF] at y; exact y) (show ¬ (1 : Int32) = 0 by decide)) hR2 s2
