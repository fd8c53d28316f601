/-! ===== the reference: writing (by wip/whole/gen_rWri2.py) ===== -/
theorem al_n {f : Nat → Int32} {k : Nat} (h : ¬ 255 ≤ f (4 * k + 3)) : nI (alN f (k + 1)) = nI k + 1 := by
  rw [alN, if_neg (fun q => h (by rw [q]; decide))]
  exact nI_succ k
theorem al_y {f : Nat → Int32} {k : Nat} (_ : k ≤ k) (hb : byt (f (4 * k + 3))) (h : 255 ≤ f (4 * k + 3)) : nI (alN f (k + 1)) = nI (alN f k) := by
  rw [alN, if_pos (Int32.le_antisymm hb.2 h)]
theorem sh_n {v e : Nat} (he : e ≤ 7) (hv : v < 2 ^ 8) : nI v >>> (nI e &&& 31) = nI (v / 2 ^ e) := by
  have q : ∀ e : Fin 8, ((nI e.1 &&& 31).toBitVec.smod 32).toNat = e.1 := by decide
  exact pk_shrN (by omega) _ e (q ⟨e, by omega⟩)
theorem sN_lt {π : aPic} {y s : Nat} (hs : smB π) (hy : y < π.1.2.1) (hb : π.1.2.2.1 ≤ 8 := by omega) : sN π y s < 2 ^ 8 := by
  by_cases e : s < π.1.1 * chN π.1.2.2.2
  · exact Nat.lt_of_lt_of_le (hs y hy s e).2 (Nat.pow_le_pow_right (by omega) hb)
  · unfold sN
    rw [if_neg e]
    decide
set_option maxHeartbeats 4000000 in
theorem l_Ref_wPal2 {E : pmEv} {h0 : pmH} {z : Option Nat} {m : Nat} {g : Nat → Int32} {A : Nat → Nat → Int32} {c G : aRow} (hg7 : g 7 = nI c.2) (hc64 : c.2 ≤ 64) (hA1 : Ag (4 * c.2) (A 1) c.1) (hby : ∀ j, j < 4 * c.2 → byt (c.1 j)) {a M : Nat} (hM : M ≤ c.2) : ∀ (n : Nat) (k : Nat) (p : aRow) (h : pmH) (d : Bool), k + n = M → p.2 + n + 4 ≤ 2000 → a + 8 ≤ p.2 → AllB p → RWr h m g A p → Sm h0 h m 17 → G = clW (wAs (fun i => c.1 (4 * i + 3)) k n p) a → Go E (mRef_writePalette, h0, 0, 0) 107 [some (.ref m), some (.int (nI a)), some (.int (nI M)), some (.int (nI (k)))] [] (h, z, d) 0 0 (RetX none (fun h' => RWr h' m g A G ∧ AllB G ∧ Sm h0 h' m 17) z) := by
  intro n
  induction n with
  | zero =>
    intro k p h d hk hn ha hB hW hs hG
    refine go_iload_n dRef_writePalette_107 rfl ?_
    refine go_iload_n dRef_writePalette_108 rfl ?_
    refine go_icmp_ge (tgt := 132) dRef_writePalette_109 (fun c1 => ?_) (fun c1 => ?_)
    · refine go_aload_n dRef_writePalette_132 rfl ?_
      refine go_iload_n dRef_writePalette_133 rfl ?_
      refine go_virtX dRef_writePalette_134 ok_mRef_close im_mRef_close se_mRef_close qm_Ref_170 hW.cell (r_close (show a + 0 + 8 ≤ p.2 + 0 by omega) (show p.2 + 0 + 4 ≤ 2000 by omega) hB hW) (fun hx2 d2 q2 => ?_) (hnp := np_mRef_close)
      have hW2 := q2.1
      have s2 := hs.trans q2.2
      refine go_vret dRef_writePalette_137 rfl ?_ (Nat.le_of_ble_eq_true rfl) (Nat.le_of_ble_eq_true rfl)
      rw [show G = clW p a from hG]
      exact retX ⟨hW2, (hB.cl (show a + 0 + 8 ≤ p.2 + 0 by omega)), s2⟩
    · exact absurd (nI_le (a := M) (b := k) (by omega) (by omega)) c1
  | succ n ih =>
    intro k p h d hk hn ha hB hW hs hG
    refine go_iload_n dRef_writePalette_107 rfl ?_
    refine go_iload_n dRef_writePalette_108 rfl ?_
    refine go_icmp_ge (tgt := 132) dRef_writePalette_109 (fun c1 => ?_) (fun c1 => ?_)
    · exact absurd c1 (nI_ge (a := k) (b := M) (by omega) (by omega))
    · refine go_aload_n dRef_writePalette_112 rfl ?_
      refine go_aload_n dRef_writePalette_113 rfl ?_
      refine go_getf dRef_writePalette_114 qf_Ref_13 hW.cell rfl ?_
      refine go_iconst (v := 4) dRef_writePalette_117 (by decide) ?_
      refine go_iload_n dRef_writePalette_118 rfl ?_
      refine go_imul dRef_writePalette_119 ?_
      refine go_iconst (v := 3) dRef_writePalette_120 (by decide) ?_
      refine go_iadd dRef_writePalette_121 ?_
      refine go_top (y := nI (4 * k + 3)) (by rw [show (4 : Int32) = nI 4 from rfl, pk_mul, show (3 : Int32) = nI 3 from rfl, nI_add]) ?_
      refine go_iald dRef_writePalette_122 hW.a1 (by exact vp_in_nI (by omega) (by omega)) (congrArg _ (nI_clamp (by omega))) ?_
      refine go_top (y := c.1 (4 * k + 3)) (by exact hA1 _ (by omega)) ?_
      refine go_virtX dRef_writePalette_123 ok_mRef_tell im_mRef_tell se_mRef_tell qm_Ref_150 hW.cell (r_tell (show p.2 + 0 < 2000 by omega) hW) (fun hx2 d2 q2 => ?_) (hnp := np_mRef_tell)
      have hW2 := q2.1
      have s2 := hs.trans q2.2
      refine go_iinc dRef_writePalette_126 rfl (congrArg (_ + ·) lit1) ?_
      refine go_goto (tgt := 107) dRef_writePalette_129 ?_
      exact go_at (ih (k + 1) (wA p (c.1 (4 * k + 3))) _ _ (by omega) (show p.2 + 1 + n + 4 ≤ 2000 by omega) (show a + 8 ≤ p.2 + 1 by omega) (hB.add (hby _ (by omega))) hW2 s2 (by rw [hG, wAs])) rfl (by rw [nI_succ k]; rfl) rfl rfl
set_option maxHeartbeats 4000000 in
theorem l_Ref_wPal1 {E : pmEv} {h0 : pmH} {z : Option Nat} {m : Nat} {g : Nat → Int32} {A : Nat → Nat → Int32} {c G : aRow} (hg7 : g 7 = nI c.2) (hc64 : c.2 ≤ 64) (hA1 : Ag (4 * c.2) (A 1) c.1) (hby : ∀ j, j < 4 * c.2 → byt (c.1 j)) {a : Nat} {PL : aRow} : ∀ (n : Nat) (k : Nat) (p : aRow) (h : pmH) (d : Bool), k + n = c.2 → p.2 + 3 * n + 4 + 76 ≤ 2000 → a + 8 ≤ p.2 → AllB p → RWr h m g A p → Sm h0 h m 17 → PL = clW (wPl c.1 n k p) a → G = alW c PL → Go E (mRef_writePalette, h0, 0, 0) 11 [some (.ref m), some (.int (nI a)), some (.int (nI (alN c.1 (k)))), some (.int (nI (k)))] [] (h, z, d) 0 0 (RetX none (fun h' => RWr h' m g A G ∧ AllB G ∧ Sm h0 h' m 17) z) := by
  intro n
  induction n with
  | zero =>
    intro k p h d hk hn ha hB hW hs hPL hG
    have hal := alN_le c.1 k
    have hal2 := alN_le c.1 c.2
    refine go_iload_n dRef_writePalette_11 rfl ?_
    refine go_aload_n dRef_writePalette_12 rfl ?_
    refine go_getf dRef_writePalette_13 qf_Ref_83 hW.cell rfl ?_
    refine go_top (y := nI c.2) (by exact hg7) ?_
    refine go_icmp_ge (tgt := 89) dRef_writePalette_16 (fun c1 => ?_) (fun c1 => ?_)
    · refine go_aload_n dRef_writePalette_89 rfl ?_
      refine go_iload_n dRef_writePalette_90 rfl ?_
      refine go_virtX dRef_writePalette_91 ok_mRef_close im_mRef_close se_mRef_close qm_Ref_170 hW.cell (r_close (show a + 0 + 8 ≤ p.2 + 0 by omega) (show p.2 + 0 + 4 ≤ 2000 by omega) hB hW) (fun hx2 d2 q2 => ?_) (hnp := np_mRef_close)
      have hW2 := q2.1
      have s2 := hs.trans q2.2
      refine go_iload_n dRef_writePalette_94 rfl ?_
      refine go_if_le (tgt := 137) dRef_writePalette_95 (fun c3 => ?_) (fun c3 => ?_)
      · refine go_vret dRef_writePalette_137 rfl ?_ (Nat.le_of_ble_eq_true rfl) (Nat.le_of_ble_eq_true rfl)
        rw [show G = clW p a by rw [hG, hPL, alW, if_pos (by have := (nI_leI (b := 0) (by omega) (by omega)).mp c3; rw [show k = c.2 by omega] at this; omega)]; rfl]
        exact retX ⟨hW2, (hB.cl (show a + 0 + 8 ≤ p.2 + 0 by omega)), s2⟩
      · refine go_aload_n dRef_writePalette_98 rfl ?_
        refine go_ldc dRef_writePalette_99 qc_Ref_127 ?_
        refine go_virtX dRef_writePalette_101 ok_mRef_open im_mRef_open se_mRef_open qm_Ref_167 hW2.cell (r_open (show p.2 + 4 + 8 ≤ 2000 by omega) hW2) (fun hx4 d4 q4 => ?_) (hnp := np_mRef_open)
        have hW4 := q4.1
        have s4 := s2.trans q4.2
        refine go_istore_n dRef_writePalette_104 ?_
        refine go_iconst (v := 0) dRef_writePalette_105 (by decide) ?_
        refine go_istore_n dRef_writePalette_106 ?_
        obtain rfl : k = c.2 := by omega
        have hne : ¬ alN c.1 c.2 = 0 := fun q => c3 (by rw [q]; decide)
        exact l_Ref_wPal2 hg7 hc64 hA1 hby (alN_le _ _) (alN c.1 c.2) 0 (opW (clW p a) 1951551059) _ _ (by omega) (show p.2 + 4 + 8 + alN c.1 c.2 + 4 ≤ 2000 by omega) (show p.2 + 4 + 8 ≤ p.2 + 4 + 8 by omega) ((hB.cl (show a + 0 + 8 ≤ p.2 + 0 by omega)).op) hW4 s4 (by rw [hG, hPL, alW, if_neg hne]; rfl)
    · exact absurd (nI_le (a := c.2) (b := k) (by omega) (by omega)) c1
  | succ n ih =>
    intro k p h d hk hn ha hB hW hs hPL hG
    have hal := alN_le c.1 k
    have hal2 := alN_le c.1 c.2
    refine go_iload_n dRef_writePalette_11 rfl ?_
    refine go_aload_n dRef_writePalette_12 rfl ?_
    refine go_getf dRef_writePalette_13 qf_Ref_83 hW.cell rfl ?_
    refine go_top (y := nI c.2) (by exact hg7) ?_
    refine go_icmp_ge (tgt := 89) dRef_writePalette_16 (fun c1 => ?_) (fun c1 => ?_)
    · exact absurd c1 (nI_ge (a := k) (b := c.2) (by omega) (by omega))
    · refine go_aload_n dRef_writePalette_19 rfl ?_
      refine go_aload_n dRef_writePalette_20 rfl ?_
      refine go_getf dRef_writePalette_21 qf_Ref_13 hW.cell rfl ?_
      refine go_iconst (v := 4) dRef_writePalette_24 (by decide) ?_
      refine go_iload_n dRef_writePalette_25 rfl ?_
      refine go_imul dRef_writePalette_26 ?_
      refine go_top (y := nI (4 * k)) (by rw [show (4 : Int32) = nI 4 from rfl, pk_mul]) ?_
      refine go_iald dRef_writePalette_27 hW.a1 (by exact vp_in_nI (by omega) (by omega)) (congrArg _ (nI_clamp (by omega))) ?_
      refine go_top (y := c.1 (4 * k + 0)) (by exact hA1 _ (by omega)) ?_
      refine go_virtX dRef_writePalette_28 ok_mRef_tell im_mRef_tell se_mRef_tell qm_Ref_150 hW.cell (r_tell (show p.2 + 0 < 2000 by omega) hW) (fun hx2 d2 q2 => ?_) (hnp := np_mRef_tell)
      have hW2 := q2.1
      have s2 := hs.trans q2.2
      refine go_aload_n dRef_writePalette_31 rfl ?_
      refine go_aload_n dRef_writePalette_32 rfl ?_
      refine go_getf dRef_writePalette_33 qf_Ref_13 hW2.cell rfl ?_
      refine go_iconst (v := 4) dRef_writePalette_36 (by decide) ?_
      refine go_iload_n dRef_writePalette_37 rfl ?_
      refine go_imul dRef_writePalette_38 ?_
      refine go_iconst (v := 1) dRef_writePalette_39 (by decide) ?_
      refine go_iadd dRef_writePalette_40 ?_
      refine go_top (y := nI (4 * k + 1)) (by rw [show (4 : Int32) = nI 4 from rfl, pk_mul, show (1 : Int32) = nI 1 from rfl, nI_add]) ?_
      refine go_iald dRef_writePalette_41 hW2.a1 (by exact vp_in_nI (by omega) (by omega)) (congrArg _ (nI_clamp (by omega))) ?_
      refine go_top (y := c.1 (4 * k + 1)) (by exact hA1 _ (by omega)) ?_
      refine go_virtX dRef_writePalette_42 ok_mRef_tell im_mRef_tell se_mRef_tell qm_Ref_150 hW2.cell (r_tell (show p.2 + 1 < 2000 by omega) hW2) (fun hx3 d3 q3 => ?_) (hnp := np_mRef_tell)
      have hW3 := q3.1
      have s3 := s2.trans q3.2
      refine go_aload_n dRef_writePalette_45 rfl ?_
      refine go_aload_n dRef_writePalette_46 rfl ?_
      refine go_getf dRef_writePalette_47 qf_Ref_13 hW3.cell rfl ?_
      refine go_iconst (v := 4) dRef_writePalette_50 (by decide) ?_
      refine go_iload_n dRef_writePalette_51 rfl ?_
      refine go_imul dRef_writePalette_52 ?_
      refine go_iconst (v := 2) dRef_writePalette_53 (by decide) ?_
      refine go_iadd dRef_writePalette_54 ?_
      refine go_top (y := nI (4 * k + 2)) (by rw [show (4 : Int32) = nI 4 from rfl, pk_mul, show (2 : Int32) = nI 2 from rfl, nI_add]) ?_
      refine go_iald dRef_writePalette_55 hW3.a1 (by exact vp_in_nI (by omega) (by omega)) (congrArg _ (nI_clamp (by omega))) ?_
      refine go_top (y := c.1 (4 * k + 2)) (by exact hA1 _ (by omega)) ?_
      refine go_virtX dRef_writePalette_56 ok_mRef_tell im_mRef_tell se_mRef_tell qm_Ref_150 hW3.cell (r_tell (show p.2 + 2 < 2000 by omega) hW3) (fun hx4 d4 q4 => ?_) (hnp := np_mRef_tell)
      have hW4 := q4.1
      have s4 := s3.trans q4.2
      refine go_aload_n dRef_writePalette_59 rfl ?_
      refine go_getf dRef_writePalette_60 qf_Ref_13 hW4.cell rfl ?_
      refine go_iconst (v := 4) dRef_writePalette_63 (by decide) ?_
      refine go_iload_n dRef_writePalette_64 rfl ?_
      refine go_imul dRef_writePalette_65 ?_
      refine go_iconst (v := 3) dRef_writePalette_66 (by decide) ?_
      refine go_iadd dRef_writePalette_67 ?_
      refine go_top (y := nI (4 * k + 3)) (by rw [show (4 : Int32) = nI 4 from rfl, pk_mul, show (3 : Int32) = nI 3 from rfl, nI_add]) ?_
      refine go_iald dRef_writePalette_68 hW4.a1 (by exact vp_in_nI (by omega) (by omega)) (congrArg _ (nI_clamp (by omega))) ?_
      refine go_top (y := c.1 (4 * k + 3)) (by exact hA1 _ (by omega)) ?_
      refine go_sipush (v := 255) dRef_writePalette_69 (by decide) ?_
      refine go_icmp_ge (tgt := 81) dRef_writePalette_72 (fun c5 => ?_) (fun c5 => ?_)
      · refine go_iload_n dRef_writePalette_81 rfl ?_
        refine go_istore_n dRef_writePalette_82 ?_
        refine go_iinc dRef_writePalette_83 rfl (congrArg (_ + ·) lit1) ?_
        refine go_goto (tgt := 11) dRef_writePalette_86 ?_
        exact go_at (ih (k + 1) (wAs (fun i => c.1 (4 * k + i)) 0 3 p) _ _ (by omega) (show p.2 + 3 + 3 * n + 4 + 76 ≤ 2000 by omega) (show a + 8 ≤ p.2 + 3 by omega) (((hB.add (hby _ (by omega))).add (hby _ (by omega))).add (hby _ (by omega))) hW4 s4 (by rw [hPL, wPl]) hG) rfl (by rw [nI_succ k, al_y (by omega) (hby _ (by omega)) c5]; rfl) rfl rfl
      · refine go_iload_n dRef_writePalette_75 rfl ?_
        refine go_iconst (v := 1) dRef_writePalette_76 (by decide) ?_
        refine go_iadd dRef_writePalette_77 ?_
        refine go_goto (tgt := 82) dRef_writePalette_78 ?_
        refine go_istore_n dRef_writePalette_82 ?_
        refine go_iinc dRef_writePalette_83 rfl (congrArg (_ + ·) lit1) ?_
        refine go_goto (tgt := 11) dRef_writePalette_86 ?_
        exact go_at (ih (k + 1) (wAs (fun i => c.1 (4 * k + i)) 0 3 p) _ _ (by omega) (show p.2 + 3 + 3 * n + 4 + 76 ≤ 2000 by omega) (show a + 8 ≤ p.2 + 3 by omega) (((hB.add (hby _ (by omega))).add (hby _ (by omega))).add (hby _ (by omega))) hW4 s4 (by rw [hPL, wPl]) hG) rfl (by rw [nI_succ k, al_n c5]; rfl) rfl rfl
set_option maxHeartbeats 4000000 in
theorem r_writePalette {E : pmEv} {h : pmH} {z : Option Nat} {m : Nat} {g : Nat → Int32} {A : Nat → Nat → Int32} {p : aRow} {c : aRow} (hg7 : g 7 = nI c.2) (hc64 : c.2 ≤ 64) (hA1 : Ag (4 * c.2) (A 1) c.1) (hby : ∀ j, j < 4 * c.2 → byt (c.1 j)) (hn : p.2 + 3 * c.2 + 12 + 76 ≤ 2000) (hB : AllB p) (hW : RWr h m g A p) : Call E mRef_writePalette [.ref m] h z 0 0 (RetX none (fun h' => RWr h' m g A (alW c (plW c p)) ∧ AllB (alW c (plW c p)) ∧ Sm h h' m 17) z) := by
  have hs : Sm h h m 17 := Sm.refl _ _ _
  refine call_of (L := [some (.ref m), none, none, none]) ok_mRef_writePalette (Nat.le_of_ble_eq_true rfl) ?_
  refine go_aload_n dRef_writePalette_0 rfl ?_
  refine go_ldc dRef_writePalette_1 qc_Ref_173 ?_
  refine go_virtX dRef_writePalette_3 ok_mRef_open im_mRef_open se_mRef_open qm_Ref_167 hW.cell (r_open (show p.2 + 0 + 8 ≤ 2000 by omega) hW) (fun hx1 d1 q1 => ?_) (hnp := np_mRef_open)
  have hW1 := q1.1
  have s1 := hs.trans q1.2
  refine go_istore_n dRef_writePalette_6 ?_
  refine go_iconst (v := 0) dRef_writePalette_7 (by decide) ?_
  refine go_istore_n dRef_writePalette_8 ?_
  refine go_iconst (v := 0) dRef_writePalette_9 (by decide) ?_
  refine go_istore_n dRef_writePalette_10 ?_
  exact l_Ref_wPal1 hg7 hc64 hA1 hby (a := p.2) c.2 0 (opW p 1347179589) _ _ (by omega) (show p.2 + 8 + 3 * c.2 + 4 + 76 ≤ 2000 by omega) (show p.2 + 8 ≤ p.2 + 8 by omega) (hB.op) hW1 s1 rfl rfl
set_option maxHeartbeats 4000000 in
theorem l_Ref_rowByte {E : pmEv} {h : pmH} {z : Option Nat} {m : Nat} {g : Nat → Int32} {A : Nat → Nat → Int32} {p : aRow} {π : aPic} (hd : g 2 = nI π.1.1 ∧ g 3 = nI π.1.2.1 ∧ g 4 = nI π.1.2.2.1 ∧ g 5 = nI π.1.2.2.2) (hsa : SaR (A 0) π.2.1 π.1) (ho : okN π.1) (hsB : smB π) {i : Nat} (hi : i < π.1.2.1 * rlN π.1) (hW : RWr h m g A p) : ∀ (n : Nat) (bit : Nat) (all : Nat), bit + n = 8 * (i % rlN π.1) → Go E (mRef_rowByte, h, 0, 0) 41 [some (.ref m), some (.int (nI i)), some (.int (nI (rlN π.1))), some (.int (nI (i / rlN π.1))), some (.int (nI (all))), some (.int (nI (bit))), none, none, none] [] (h, z, false) 0 0 (Ret (some (.int (nI (fB (bN π (i / rlN π.1)) bit n all)))) (h, z, false)) := by
  intro n
  induction n with
  | zero =>
    intro bit all hbit
    have hb := ho.b
    have hwh := ho.w
    have hkk := ho.k
    have hch := chN_le π.1.2.2.2
    have hrb := rbN_le ho
    have hrl : 1 ≤ rlN π.1 ∧ rlN π.1 ≤ 49 := by unfold rlN; omega
    have hi2 : i < 588 := Nat.lt_of_lt_of_le hi (by rw [Nat.mul_comm]; exact rlH_le ho)
    have hyH : (i / rlN π.1) < π.1.2.1 := (Nat.div_lt_iff_lt_mul (by omega)).mpr hi
    have hm := Nat.mod_lt i (show 0 < rlN π.1 by omega)
    have hbm := Nat.mod_lt bit (show 0 < π.1.2.2.1 by omega)
    have hbd := Nat.div_le_self bit π.1.2.2.1
    have hwc : π.1.1 * chN π.1.2.2.2 ≤ 12 * 4 := Nat.mul_le_mul hwh.1 hch.2
    refine go_iload dRef_rowByte_41 rfl ?_
    refine go_bipush (v := 8) dRef_rowByte_43 (by decide) ?_
    refine go_iload_n dRef_rowByte_45 rfl ?_
    refine go_iload_n dRef_rowByte_46 rfl ?_
    refine go_irem dRef_rowByte_47 (by first | exact vp_in_nI (by omega) (by omega) | exact nI_ne0 (by omega) (by omega)) ?_
    refine go_top (y := nI (i % rlN π.1)) (by exact pk_rem (by omega) (by omega) (by omega)) ?_
    refine go_imul dRef_rowByte_48 ?_
    refine go_top (y := nI (8 * (i % rlN π.1))) (by rw [show (8 : Int32) = nI 8 from rfl, pk_mul]) ?_
    refine go_icmp_ge (tgt := 143) dRef_rowByte_49 (fun c1 => ?_) (fun c1 => ?_)
    · refine go_iload dRef_rowByte_143 rfl ?_
      refine go_iret dRef_rowByte_145 rfl rfl ?_ (Nat.le_of_ble_eq_true rfl) (Nat.le_of_ble_eq_true rfl)
      exact ret_v
    · exact absurd (nI_le (a := 8 * (i % rlN π.1)) (b := bit) (by omega) (by omega)) c1
  | succ n ih =>
    intro bit all hbit
    have hb := ho.b
    have hwh := ho.w
    have hkk := ho.k
    have hch := chN_le π.1.2.2.2
    have hrb := rbN_le ho
    have hrl : 1 ≤ rlN π.1 ∧ rlN π.1 ≤ 49 := by unfold rlN; omega
    have hi2 : i < 588 := Nat.lt_of_lt_of_le hi (by rw [Nat.mul_comm]; exact rlH_le ho)
    have hyH : (i / rlN π.1) < π.1.2.1 := (Nat.div_lt_iff_lt_mul (by omega)).mpr hi
    have hm := Nat.mod_lt i (show 0 < rlN π.1 by omega)
    have hbm := Nat.mod_lt bit (show 0 < π.1.2.2.1 by omega)
    have hbd := Nat.div_le_self bit π.1.2.2.1
    have hwc : π.1.1 * chN π.1.2.2.2 ≤ 12 * 4 := Nat.mul_le_mul hwh.1 hch.2
    refine go_iload dRef_rowByte_41 rfl ?_
    refine go_bipush (v := 8) dRef_rowByte_43 (by decide) ?_
    refine go_iload_n dRef_rowByte_45 rfl ?_
    refine go_iload_n dRef_rowByte_46 rfl ?_
    refine go_irem dRef_rowByte_47 (by first | exact vp_in_nI (by omega) (by omega) | exact nI_ne0 (by omega) (by omega)) ?_
    refine go_top (y := nI (i % rlN π.1)) (by exact pk_rem (by omega) (by omega) (by omega)) ?_
    refine go_imul dRef_rowByte_48 ?_
    refine go_top (y := nI (8 * (i % rlN π.1))) (by rw [show (8 : Int32) = nI 8 from rfl, pk_mul]) ?_
    refine go_icmp_ge (tgt := 143) dRef_rowByte_49 (fun c1 => ?_) (fun c1 => ?_)
    · exact absurd c1 (nI_ge (a := bit) (b := 8 * (i % rlN π.1)) (by omega) (by omega))
    · refine go_iload dRef_rowByte_52 rfl ?_
      refine go_aload_n dRef_rowByte_54 rfl ?_
      refine go_getf dRef_rowByte_55 qf_Ref_77 hW.cell rfl ?_
      refine go_top (y := nI π.1.2.2.1) (by exact hd.2.2.1) ?_
      refine go_idiv dRef_rowByte_58 (by first | exact vp_in_nI (by omega) (by omega) | exact nI_ne0 (by omega) (by omega)) ?_
      refine go_top (y := nI (bit / π.1.2.2.1)) (by exact pk_div (by omega) (by omega) (by omega)) ?_
      refine go_istore dRef_rowByte_59 ?_
      refine go_aload_n dRef_rowByte_61 rfl ?_
      refine go_getf dRef_rowByte_62 qf_Ref_80 hW.cell rfl ?_
      refine go_top (y := nI π.1.2.2.2) (by exact hd.2.2.2) ?_
      refine go_statP dRef_rowByte_65 ok_mRef_channelsOf st_mRef_channelsOf qm_Ref_100 r_channelsOf ?_ (hnp := np_mRef_channelsOf)
      rw [chOf_n hkk]
      refine go_istore dRef_rowByte_68 ?_
      refine go_iload dRef_rowByte_70 rfl ?_
      refine go_aload_n dRef_rowByte_72 rfl ?_
      refine go_getf dRef_rowByte_73 qf_Ref_71 hW.cell rfl ?_
      refine go_top (y := nI π.1.1) (by exact hd.1) ?_
      refine go_iload dRef_rowByte_76 rfl ?_
      refine go_imul dRef_rowByte_78 ?_
      refine go_top (y := nI (π.1.1 * chN π.1.2.2.2)) (by exact pk_mul _ _) ?_
      refine go_icmp_ge (tgt := 108) dRef_rowByte_79 (fun c2 => ?_) (fun c2 => ?_)
      · refine go_iconst (v := 0) dRef_rowByte_108 (by decide) ?_
        refine go_top (y := nI (sN π (i / rlN π.1) (bit / π.1.2.2.1))) (by rw [sN, if_neg (fun q => nI_ge q (by omega) c2)]; rfl) ?_
        refine go_istore dRef_rowByte_109 ?_
        refine go_iconst (v := 2) dRef_rowByte_111 (by decide) ?_
        refine go_iload dRef_rowByte_112 rfl ?_
        refine go_imul dRef_rowByte_114 ?_
        refine go_iload dRef_rowByte_115 rfl ?_
        refine go_aload_n dRef_rowByte_117 rfl ?_
        refine go_getf dRef_rowByte_118 qf_Ref_77 hW.cell rfl ?_
        refine go_top (y := nI π.1.2.2.1) (by exact hd.2.2.1) ?_
        refine go_iconst (v := 1) dRef_rowByte_121 (by decide) ?_
        refine go_isub dRef_rowByte_122 ?_
        refine go_iload dRef_rowByte_123 rfl ?_
        refine go_aload_n dRef_rowByte_125 rfl ?_
        refine go_getf dRef_rowByte_126 qf_Ref_77 hW.cell rfl ?_
        refine go_top (y := nI π.1.2.2.1) (by exact hd.2.2.1) ?_
        refine go_irem dRef_rowByte_129 (by first | exact vp_in_nI (by omega) (by omega) | exact nI_ne0 (by omega) (by omega)) ?_
        refine go_top (y := nI (bit % π.1.2.2.1)) (by exact pk_rem (by omega) (by omega) (by omega)) ?_
        refine go_isub dRef_rowByte_130 ?_
        refine go_top (y := nI (π.1.2.2.1 - 1 - bit % π.1.2.2.1)) (by rw [show (1 : Int32) = nI 1 from rfl, pk_sub (by omega), pk_sub (by omega)]) ?_
        refine go_ishr dRef_rowByte_131 ?_
        refine go_top (y := nI (sN π (i / rlN π.1) (bit / π.1.2.2.1) / 2 ^ (π.1.2.2.1 - 1 - bit % π.1.2.2.1))) (by exact sh_n (by omega) (sN_lt hsB hyH)) ?_
        refine go_iconst (v := 1) dRef_rowByte_132 (by decide) ?_
        refine go_iand dRef_rowByte_133 ?_
        refine go_top (y := nI (bN π (i / rlN π.1) bit)) (by exact pk_andN (Nat.lt_of_le_of_lt (Nat.div_le_self _ _) (Nat.lt_of_lt_of_le (sN_lt hsB hyH) (by decide))) 1 (by decide)) ?_
        refine go_iadd dRef_rowByte_134 ?_
        refine go_top (y := nI (2 * all + bN π (i / rlN π.1) bit)) (by rw [show (2 : Int32) = nI 2 from rfl, pk_mul, nI_add]) ?_
        refine go_istore dRef_rowByte_135 ?_
        refine go_iinc dRef_rowByte_137 rfl (congrArg (_ + ·) lit1) ?_
        refine go_goto (tgt := 41) dRef_rowByte_140 ?_
        refine go_fg 6 (go_fg 7 (go_fg 8 ?_))
        exact go_at (ih (bit + 1) (2 * all + bN π (i / rlN π.1) bit) (by omega)) rfl (by rw [nI_succ bit]; rfl) rfl rfl
      · have hsl : (bit / π.1.2.2.1) < π.1.1 * chN π.1.2.2.2 := Nat.not_le.mp fun q => c2 (nI_le q (by omega))
        have hpos : (((i / rlN π.1) * 12 + (bit / π.1.2.2.1) / chN π.1.2.2.2) * 4 + (bit / π.1.2.2.1) % chN π.1.2.2.2) < 576 := pos_lt ho (Nat.div_lt_of_lt_mul (by rw [Nat.mul_comm]; exact hsl)) hyH (Nat.mod_lt _ (by omega))
        refine go_aload_n dRef_rowByte_82 rfl ?_
        refine go_getf dRef_rowByte_83 qf_Ref_7 hW.cell rfl ?_
        refine go_iconst (v := 4) dRef_rowByte_86 (by decide) ?_
        refine go_bipush (v := 12) dRef_rowByte_87 (by decide) ?_
        refine go_iload_n dRef_rowByte_89 rfl ?_
        refine go_imul dRef_rowByte_90 ?_
        refine go_iload dRef_rowByte_91 rfl ?_
        refine go_iload dRef_rowByte_93 rfl ?_
        refine go_idiv dRef_rowByte_95 (by first | exact vp_in_nI (by omega) (by omega) | exact nI_ne0 (by omega) (by omega)) ?_
        refine go_top (y := nI ((bit / π.1.2.2.1) / chN π.1.2.2.2)) (by exact pk_div (by omega) (by omega) (by omega)) ?_
        refine go_iadd dRef_rowByte_96 ?_
        refine go_imul dRef_rowByte_97 ?_
        refine go_iload dRef_rowByte_98 rfl ?_
        refine go_iload dRef_rowByte_100 rfl ?_
        refine go_irem dRef_rowByte_102 (by first | exact vp_in_nI (by omega) (by omega) | exact nI_ne0 (by omega) (by omega)) ?_
        refine go_top (y := nI ((bit / π.1.2.2.1) % chN π.1.2.2.2)) (by exact pk_rem (by omega) (by omega) (by omega)) ?_
        refine go_iadd dRef_rowByte_103 ?_
        refine go_top (y := nI (((i / rlN π.1) * 12 + (bit / π.1.2.2.1) / chN π.1.2.2.2) * 4 + (bit / π.1.2.2.1) % chN π.1.2.2.2)) (by rw [show (4 : Int32) = nI 4 from rfl, show (12 : Int32) = nI 12 from rfl, pk_mul, nI_add, pk_mul, nI_add, Nat.mul_comm 4, Nat.mul_comm 12]) ?_
        refine go_iald dRef_rowByte_104 hW.a0 (by first | exact vp_in_nI (by omega) (by omega) | exact nI_ne0 (by omega) (by omega)) (congrArg _ (nI_clamp (by omega))) ?_
        refine go_goto (tgt := 109) dRef_rowByte_105 ?_
        refine go_top (y := nI (sN π (i / rlN π.1) (bit / π.1.2.2.1))) (by exact (hsa _ (Nat.div_lt_of_lt_mul (by rw [Nat.mul_comm]; exact hsl)) _ hyH _ (Nat.mod_lt _ (by omega))).trans (hsB _ hyH _ hsl).1) ?_
        refine go_istore dRef_rowByte_109 ?_
        refine go_iconst (v := 2) dRef_rowByte_111 (by decide) ?_
        refine go_iload dRef_rowByte_112 rfl ?_
        refine go_imul dRef_rowByte_114 ?_
        refine go_iload dRef_rowByte_115 rfl ?_
        refine go_aload_n dRef_rowByte_117 rfl ?_
        refine go_getf dRef_rowByte_118 qf_Ref_77 hW.cell rfl ?_
        refine go_top (y := nI π.1.2.2.1) (by exact hd.2.2.1) ?_
        refine go_iconst (v := 1) dRef_rowByte_121 (by decide) ?_
        refine go_isub dRef_rowByte_122 ?_
        refine go_iload dRef_rowByte_123 rfl ?_
        refine go_aload_n dRef_rowByte_125 rfl ?_
        refine go_getf dRef_rowByte_126 qf_Ref_77 hW.cell rfl ?_
        refine go_top (y := nI π.1.2.2.1) (by exact hd.2.2.1) ?_
        refine go_irem dRef_rowByte_129 (by first | exact vp_in_nI (by omega) (by omega) | exact nI_ne0 (by omega) (by omega)) ?_
        refine go_top (y := nI (bit % π.1.2.2.1)) (by exact pk_rem (by omega) (by omega) (by omega)) ?_
        refine go_isub dRef_rowByte_130 ?_
        refine go_top (y := nI (π.1.2.2.1 - 1 - bit % π.1.2.2.1)) (by rw [show (1 : Int32) = nI 1 from rfl, pk_sub (by omega), pk_sub (by omega)]) ?_
        refine go_ishr dRef_rowByte_131 ?_
        refine go_top (y := nI (sN π (i / rlN π.1) (bit / π.1.2.2.1) / 2 ^ (π.1.2.2.1 - 1 - bit % π.1.2.2.1))) (by exact sh_n (by omega) (sN_lt hsB hyH)) ?_
        refine go_iconst (v := 1) dRef_rowByte_132 (by decide) ?_
        refine go_iand dRef_rowByte_133 ?_
        refine go_top (y := nI (bN π (i / rlN π.1) bit)) (by exact pk_andN (Nat.lt_of_le_of_lt (Nat.div_le_self _ _) (Nat.lt_of_lt_of_le (sN_lt hsB hyH) (by decide))) 1 (by decide)) ?_
        refine go_iadd dRef_rowByte_134 ?_
        refine go_top (y := nI (2 * all + bN π (i / rlN π.1) bit)) (by rw [show (2 : Int32) = nI 2 from rfl, pk_mul, nI_add]) ?_
        refine go_istore dRef_rowByte_135 ?_
        refine go_iinc dRef_rowByte_137 rfl (congrArg (_ + ·) lit1) ?_
        refine go_goto (tgt := 41) dRef_rowByte_140 ?_
        refine go_fg 6 (go_fg 7 (go_fg 8 ?_))
        exact go_at (ih (bit + 1) (2 * all + bN π (i / rlN π.1) bit) (by omega)) rfl (by rw [nI_succ bit]; rfl) rfl rfl
set_option maxHeartbeats 4000000 in
theorem r_rowByte {E : pmEv} {h : pmH} {z : Option Nat} {m : Nat} {g : Nat → Int32} {A : Nat → Nat → Int32} {p : aRow} {π : aPic} (hd : g 2 = nI π.1.1 ∧ g 3 = nI π.1.2.1 ∧ g 4 = nI π.1.2.2.1 ∧ g 5 = nI π.1.2.2.2) (hsa : SaR (A 0) π.2.1 π.1) (ho : okN π.1) (hsB : smB π) {i : Nat} (hi : i < π.1.2.1 * rlN π.1) (hW : RWr h m g A p) : Call E mRef_rowByte [.ref m, .int (nI i)] h z 0 0 (Ret (some (.int (nI (rwB π 0 i)))) (h, z, false)) := by
  have hb := ho.b
  have hwh := ho.w
  have hkk := ho.k
  have hch := chN_le π.1.2.2.2
  have hrb := rbN_le ho
  have hrl : 1 ≤ rlN π.1 ∧ rlN π.1 ≤ 49 := by unfold rlN; omega
  have hi2 : i < 588 := Nat.lt_of_lt_of_le hi (by rw [Nat.mul_comm]; exact rlH_le ho)
  have hyH : (i / rlN π.1) < π.1.2.1 := (Nat.div_lt_iff_lt_mul (by omega)).mpr hi
  have hm := Nat.mod_lt i (show 0 < rlN π.1 by omega)
  refine call_of (L := [some (.ref m), some (.int (nI i)), none, none, none, none, none, none, none]) ok_mRef_rowByte (Nat.le_of_ble_eq_true rfl) ?_
  refine go_aload_n dRef_rowByte_0 rfl ?_
  refine go_getf dRef_rowByte_1 qf_Ref_71 hW.cell rfl ?_
  refine go_top (y := nI π.1.1) (by exact hd.1) ?_
  refine go_aload_n dRef_rowByte_4 rfl ?_
  refine go_getf dRef_rowByte_5 qf_Ref_80 hW.cell rfl ?_
  refine go_top (y := nI π.1.2.2.2) (by exact hd.2.2.2) ?_
  refine go_aload_n dRef_rowByte_8 rfl ?_
  refine go_getf dRef_rowByte_9 qf_Ref_77 hW.cell rfl ?_
  refine go_top (y := nI π.1.2.2.1) (by exact hd.2.2.1) ?_
  refine go_statP dRef_rowByte_12 ok_mRef_bytesInRow st_mRef_bytesInRow qm_Ref_174 (r_bytesInRow (d := π.1) ho) ?_ (hnp := np_mRef_bytesInRow)
  refine go_istore_n dRef_rowByte_15 ?_
  refine go_iload_n dRef_rowByte_16 rfl ?_
  refine go_iload_n dRef_rowByte_17 rfl ?_
  refine go_idiv dRef_rowByte_18 (by exact nI_ne0 (by omega) (by omega)) ?_
  refine go_top (y := nI (i / rlN π.1)) (by exact pk_div (by omega) (by omega) (by omega)) ?_
  refine go_istore_n dRef_rowByte_19 ?_
  refine go_iload_n dRef_rowByte_20 rfl ?_
  refine go_iload_n dRef_rowByte_21 rfl ?_
  refine go_irem dRef_rowByte_22 (by exact nI_ne0 (by omega) (by omega)) ?_
  refine go_top (y := nI (i % rlN π.1)) (by exact pk_rem (by omega) (by omega) (by omega)) ?_
  refine go_if_ne (tgt := 28) dRef_rowByte_23 (fun c1 => ?_) (fun c1 => ?_)
  · refine go_iconst (v := 0) dRef_rowByte_28 (by decide) ?_
    refine go_istore dRef_rowByte_29 ?_
    refine go_bipush (v := 8) dRef_rowByte_31 (by decide) ?_
    refine go_iload_n dRef_rowByte_33 rfl ?_
    refine go_iload_n dRef_rowByte_34 rfl ?_
    refine go_irem dRef_rowByte_35 (by exact nI_ne0 (by omega) (by omega)) ?_
    refine go_top (y := nI (i % rlN π.1)) (by exact pk_rem (by omega) (by omega) (by omega)) ?_
    refine go_iconst (v := 1) dRef_rowByte_36 (by decide) ?_
    refine go_isub dRef_rowByte_37 ?_
    refine go_imul dRef_rowByte_38 ?_
    have h0 : ¬ i % rlN π.1 = 0 := fun q => c1 (by rw [q]; rfl)
    refine go_top (y := nI (8 * (i % rlN π.1 - 1))) (by rw [show (1 : Int32) = nI 1 from rfl, pk_sub (by omega), show (8 : Int32) = nI 8 from rfl, pk_mul]) ?_
    refine go_istore dRef_rowByte_39 ?_
    exact (l_Ref_rowByte hd hsa ho hsB hi hW 8 (8 * (i % rlN π.1 - 1)) 0 (by omega)).mono fun o S q => by rw [rwB, if_neg h0, Nat.zero_add]; exact q
  · refine go_iconst (v := 0) dRef_rowByte_26 (by decide) ?_
    refine go_iret dRef_rowByte_27 rfl rfl ?_ (Nat.le_of_ble_eq_true rfl) (Nat.le_of_ble_eq_true rfl)
    exact ret_e (by rw [rwB, if_pos ((nI_inj (b := 0) (by omega) (by omega)).mp c1)]; rfl)
