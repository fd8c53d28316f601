/-! ===== the reference: writing (by wip/whole/gen_rWri3.py) ===== -/
theorem byt_M {k : Nat} (hk : k < 8) : byt (bM k) := by
  have q : ∀ k : Fin 8, byt (bM k.1) := by decide
  exact q ⟨k, hk⟩
theorem smB_of {π : aPic} (hv : IvP π) : smB π := fun y hy s hs => by
  have hc := chN_le π.1.2.2.2
  have hb := hv.1.b
  have h := hv.2.2.2.1 (s / chN π.1.2.2.2) (Nat.div_lt_of_lt_mul (by rw [Nat.mul_comm]; exact hs)) y hy (s % chN π.1.2.2.2) (Nat.mod_lt _ (by omega))
  unfold sN
  rw [if_pos hs]
  generalize π.2.1 ((y * 12 + s / chN π.1.2.2.2) * 4 + s % chN π.1.2.2.2) = v at *
  obtain ⟨n, hn, rfl⟩ := nI_of (Int32.not_lt.mpr h.1)
  rw [nI_clamp hn]
  have h2 := (le_gr hb.2).mp h.2.1
  have p2 := (p2_b hb.1 hb.2)
  exact ⟨rfl, Nat.not_le.mp fun q => h2 (nI_le q hn)⟩
set_option maxHeartbeats 4000000 in
theorem l_Ref_wRows_in {E : pmEv} {h0 : pmH} {z : Option Nat} {m : Nat} {g : Nat → Int32} {A : Nat → Nat → Int32} {π : aPic} (hd : g 2 = nI π.1.1 ∧ g 3 = nI π.1.2.1 ∧ g 4 = nI π.1.2.2.1 ∧ g 5 = nI π.1.2.2.2) (hsa : SaR (A 0) π.2.1 π.1) (ho : okN π.1) (hsB : smB π) {a e fr : Nat} {Q : pmA → pmS → Prop} (ha : a ≤ 660) (he : e = min (π.1.2.1 * rlN π.1) (a + 60)) : ∀ (n : Nat) (i : Nat) (p : aRow) (h : pmH) (d : Bool), i + n = e → p.2 + n ≤ 2000 → AllB p → RWr h m g A p → Sm h0 h m 17 → (∀ hx dx, RWr hx m g A (wAs (pkC π).1 i n p) → AllB (wAs (pkC π).1 i n p) → Sm h0 hx m 17 → Go E (mRef_writeRows, h0, 0, 0) 69 [some (.ref m), some (.int (nI (π.1.2.1 * rlN π.1))), some (.int (nI a)), some (.int (nI fr)), some (.int (nI (e)))] [] (hx, z, dx) 0 0 Q) → Go E (mRef_writeRows, h0, 0, 0) 38 [some (.ref m), some (.int (nI (π.1.2.1 * rlN π.1))), some (.int (nI a)), some (.int (nI fr)), some (.int (nI (i)))] [] (h, z, d) 0 0 (Q) := by
  intro n
  induction n with
  | zero =>
    intro i p h d hi hn hB hW hs hk
    have hb := ho.b
    have hwh := ho.w
    have hkk := ho.k
    have hch := chN_le π.1.2.2.2
    have hrb := rbN_le ho
    have hrl : 1 ≤ rlN π.1 ∧ rlN π.1 ≤ 49 := by unfold rlN; omega
    have hNN : (π.1.2.1 * rlN π.1) ≤ 588 := by rw [Nat.mul_comm]; exact rlH_le ho
    refine go_iload dRef_writeRows_38 rfl ?_
    refine go_iload_n dRef_writeRows_40 rfl ?_
    refine go_icmp_ge (tgt := 69) dRef_writeRows_41 (fun c1 => ?_) (fun c1 => ?_)
    · obtain rfl : i = e := by omega
      exact hk h d hW hB hs
    · refine go_iload dRef_writeRows_44 rfl ?_
      refine go_iload_n dRef_writeRows_46 rfl ?_
      refine go_bipush (v := 60) dRef_writeRows_47 (by decide) ?_
      refine go_iadd dRef_writeRows_49 ?_
      refine go_top (y := nI (a + 60)) (by exact nI_add a 60) ?_
      refine go_icmp_ge (tgt := 69) dRef_writeRows_50 (fun c2 => ?_) (fun c2 => ?_)
      · obtain rfl : i = e := by omega
        exact hk h d hW hB hs
      · exact absurd (show i < e from Nat.lt_of_not_le fun q => (show ¬ ((π.1.2.1 * rlN π.1) ≤ i ∨ a + 60 ≤ i) from fun x => x.elim (fun y => c1 (nI_le y (by omega))) (fun y => c2 (nI_le y (by omega)))) (by omega)) (by omega)
  | succ n ih =>
    intro i p h d hi hn hB hW hs hk
    have hb := ho.b
    have hwh := ho.w
    have hkk := ho.k
    have hch := chN_le π.1.2.2.2
    have hrb := rbN_le ho
    have hrl : 1 ≤ rlN π.1 ∧ rlN π.1 ≤ 49 := by unfold rlN; omega
    have hNN : (π.1.2.1 * rlN π.1) ≤ 588 := by rw [Nat.mul_comm]; exact rlH_le ho
    refine go_iload dRef_writeRows_38 rfl ?_
    refine go_iload_n dRef_writeRows_40 rfl ?_
    refine go_icmp_ge (tgt := 69) dRef_writeRows_41 (fun c1 => ?_) (fun c1 => ?_)
    · exact absurd c1 (nI_ge (a := i) (b := (π.1.2.1 * rlN π.1)) (by omega) (by omega))
    · refine go_iload dRef_writeRows_44 rfl ?_
      refine go_iload_n dRef_writeRows_46 rfl ?_
      refine go_bipush (v := 60) dRef_writeRows_47 (by decide) ?_
      refine go_iadd dRef_writeRows_49 ?_
      refine go_top (y := nI (a + 60)) (by exact nI_add a 60) ?_
      refine go_icmp_ge (tgt := 69) dRef_writeRows_50 (fun c2 => ?_) (fun c2 => ?_)
      · exact absurd c2 (nI_ge (a := i) (b := a + 60) (by omega) (by omega))
      · refine go_aload_n dRef_writeRows_53 rfl ?_
        refine go_aload_n dRef_writeRows_54 rfl ?_
        refine go_iload dRef_writeRows_55 rfl ?_
        refine go_virtP dRef_writeRows_57 ok_mRef_rowByte im_mRef_rowByte se_mRef_rowByte qm_Ref_179 hW.cell (r_rowByte (π := π) (i := i) hd hsa ho hsB (by omega) hW) ?_ (hnp := np_mRef_rowByte)
        refine go_top (y := (pkC π).1 i) (by exact (pkC_v ho hsB (by omega)).symm) ?_
        refine go_virtX dRef_writeRows_60 ok_mRef_tell im_mRef_tell se_mRef_tell qm_Ref_150 hW.cell (r_tell (show p.2 + 0 < 2000 by omega) hW) (fun hx3 d3 q3 => ?_) (hnp := np_mRef_tell)
        have hW3 := q3.1
        have s3 := hs.trans q3.2
        refine go_iinc dRef_writeRows_63 rfl (congrArg (_ + ·) lit1) ?_
        refine go_goto (tgt := 38) dRef_writeRows_66 ?_
        exact go_at (ih (i + 1) (wA p ((pkC π).1 i)) _ _ (by omega) (show p.2 + 1 + n ≤ 2000 by omega) (hB.add (by rw [pkC_v ho hsB (by omega)]; exact byt_n (rwB_lt _ _ _))) hW3 s3 hk) rfl (by rw [nI_succ i]; rfl) rfl rfl
set_option maxHeartbeats 4000000 in
theorem l_Ref_wRows {E : pmEv} {h0 : pmH} {z : Option Nat} {m : Nat} {g : Nat → Int32} {A : Nat → Nat → Int32} {G : aRow} {π : aPic} (hd : g 2 = nI π.1.1 ∧ g 3 = nI π.1.2.1 ∧ g 4 = nI π.1.2.2.1 ∧ g 5 = nI π.1.2.2.2) (hsa : SaR (A 0) π.2.1 π.1) (ho : okN π.1) (hsB : smB π) : ∀ (n : Nat) (a : Nat) (p : aRow) (h : pmH) (d : Bool), a ≤ 660 → (π.1.2.1 * rlN π.1) ≤ a + 60 * n → p.2 + ((π.1.2.1 * rlN π.1) - a) + 12 * n ≤ 2000 → AllB p → RWr h m g A p → Sm h0 h m 17 → G = wRs (pkC π) n a p → Go E (mRef_writeRows, h0, 0, 0) 23 [some (.ref m), some (.int (nI (π.1.2.1 * rlN π.1))), some (.int (nI a)), none, none] [] (h, z, d) 0 0 (RetX none (fun h' => RWr h' m g A G ∧ AllB G ∧ Sm h0 h' m 17) z) := by
  intro n
  induction n with
  | zero =>
    intro a p h d ha hn hl hB hW hs hG
    have hb := ho.b
    have hwh := ho.w
    have hkk := ho.k
    have hch := chN_le π.1.2.2.2
    have hrb := rbN_le ho
    have hrl : 1 ≤ rlN π.1 ∧ rlN π.1 ≤ 49 := by unfold rlN; omega
    have hNN : (π.1.2.1 * rlN π.1) ≤ 588 := by rw [Nat.mul_comm]; exact rlH_le ho
    have hcN := pkC_2 ho
    refine go_iload_n dRef_writeRows_23 rfl ?_
    refine go_iload_n dRef_writeRows_24 rfl ?_
    refine go_icmp_ge (tgt := 80) dRef_writeRows_25 (fun c1 => ?_) (fun c1 => ?_)
    · refine go_vret dRef_writeRows_80 rfl ?_ (Nat.le_of_ble_eq_true rfl) (Nat.le_of_ble_eq_true rfl)
      rw [show G = p from hG]
      exact retX ⟨hW, hB, hs⟩
    · exact absurd (nI_le (a := (π.1.2.1 * rlN π.1)) (b := a) (by omega) (by omega)) c1
  | succ n ih =>
    intro a p h d ha hn hl hB hW hs hG
    have hb := ho.b
    have hwh := ho.w
    have hkk := ho.k
    have hch := chN_le π.1.2.2.2
    have hrb := rbN_le ho
    have hrl : 1 ≤ rlN π.1 ∧ rlN π.1 ≤ 49 := by unfold rlN; omega
    have hNN : (π.1.2.1 * rlN π.1) ≤ 588 := by rw [Nat.mul_comm]; exact rlH_le ho
    have hcN := pkC_2 ho
    refine go_iload_n dRef_writeRows_23 rfl ?_
    refine go_iload_n dRef_writeRows_24 rfl ?_
    refine go_icmp_ge (tgt := 80) dRef_writeRows_25 (fun c1 => ?_) (fun c1 => ?_)
    · refine go_vret dRef_writeRows_80 rfl ?_ (Nat.le_of_ble_eq_true rfl) (Nat.le_of_ble_eq_true rfl)
      rw [show G = p from by rw [hG, wRs, if_neg (fun e => absurd c1 (nI_ge (hcN ▸ e) (by omega)))]]
      exact retX ⟨hW, hB, hs⟩
    · refine go_aload_n dRef_writeRows_28 rfl ?_
      refine go_ldc dRef_writeRows_29 qc_Ref_178 ?_
      refine go_virtX dRef_writeRows_31 ok_mRef_open im_mRef_open se_mRef_open qm_Ref_167 hW.cell (r_open (show p.2 + 0 + 8 ≤ 2000 by omega) hW) (fun hx2 d2 q2 => ?_) (hnp := np_mRef_open)
      have hW2 := q2.1
      have s2 := hs.trans q2.2
      refine go_istore_n dRef_writeRows_34 ?_
      refine go_iload_n dRef_writeRows_35 rfl ?_
      refine go_istore dRef_writeRows_36 ?_
      have hlt : a < (pkC π).2 := by rw [hcN]; exact Nat.not_le.mp fun e => c1 (nI_le e (by omega))
      have e1 := wAs_2 (pkC π).1 (min (pkC π).2 (a + 60) - a) a (opW p 1229209940)
      have e2 : (opW p 1229209940).2 = p.2 + 8 := rfl
      refine l_Ref_wRows_in (fr := p.2) hd hsa ho hsB ha (e := min (π.1.2.1 * rlN π.1) (a + 60)) rfl (min (pkC π).2 (a + 60) - a) a (opW p 1229209940) _ _ (by rw [hcN]; omega) (show p.2 + 8 + (min (pkC π).2 (a + 60) - a) ≤ 2000 by omega) (hB.op) hW2 s2 (fun hx3 dx3 hW3 hB3 hs3 => ?_)
      refine go_aload_n dRef_writeRows_69 rfl ?_
      refine go_iload_n dRef_writeRows_70 rfl ?_
      refine go_virtX dRef_writeRows_71 ok_mRef_close im_mRef_close se_mRef_close qm_Ref_170 hW3.cell (r_close (p := (wAs (pkC π).1 a (min (pkC π).2 (a + 60) - a) (opW p 1229209940))) (a := p.2) (by rw [e1, e2]; omega) (by rw [e1, e2]; omega) hB3 hW3) (fun hx4 d4 q4 => ?_) (hnp := np_mRef_close)
      refine go_iinc dRef_writeRows_74 rfl rfl ?_
      refine go_goto (tgt := 23) dRef_writeRows_77 ?_
      refine go_fg 3 (go_fg 4 ?_)
      exact go_at (ih (a + 60) (clW (wAs (pkC π).1 a (min (pkC π).2 (a + 60) - a) (opW p 1229209940)) p.2) hx4 d4 (by omega) (by omega) (by show (wAs (pkC π).1 a (min (pkC π).2 (a + 60) - a) (opW p 1229209940)).2 + 4 + ((π.1.2.1 * rlN π.1) - (a + 60)) + 12 * n ≤ 2000; rw [e1, e2]; omega) (hB3.cl (by rw [e1, e2]; omega)) q4.1 (hs3.trans q4.2) (by rw [hG, wRs, if_pos hlt])) rfl (by rw [show nI (a + 60) = nI a + Int32.ofInt 60 from (nI_add a 60).symm]; rfl) rfl rfl
set_option maxHeartbeats 4000000 in
theorem r_writeRows {E : pmEv} {h : pmH} {z : Option Nat} {m : Nat} {g : Nat → Int32} {A : Nat → Nat → Int32} {p : aRow} {π : aPic} (hd : g 2 = nI π.1.1 ∧ g 3 = nI π.1.2.1 ∧ g 4 = nI π.1.2.2.1 ∧ g 5 = nI π.1.2.2.2) (hsa : SaR (A 0) π.2.1 π.1) (ho : okN π.1) (hsB : smB π) (hn : p.2 + (π.1.2.1 * rlN π.1) + 120 ≤ 2000) (hB : AllB p) (hW : RWr h m g A p) : Call E mRef_writeRows [.ref m] h z 0 0 (RetX none (fun h' => RWr h' m g A (wRs (pkC π) 10 0 p) ∧ AllB (wRs (pkC π) 10 0 p) ∧ Sm h h' m 17) z) := by
  have hb := ho.b
  have hwh := ho.w
  have hkk := ho.k
  have hch := chN_le π.1.2.2.2
  have hrb := rbN_le ho
  have hrl : 1 ≤ rlN π.1 ∧ rlN π.1 ≤ 49 := by unfold rlN; omega
  have hNN : (π.1.2.1 * rlN π.1) ≤ 588 := by rw [Nat.mul_comm]; exact rlH_le ho
  refine call_of (L := [some (.ref m), none, none, none, none]) ok_mRef_writeRows (Nat.le_of_ble_eq_true rfl) ?_
  refine go_aload_n dRef_writeRows_0 rfl ?_
  refine go_getf dRef_writeRows_1 qf_Ref_74 hW.cell rfl ?_
  refine go_top (y := nI π.1.2.1) (by exact hd.2.1) ?_
  refine go_aload_n dRef_writeRows_4 rfl ?_
  refine go_getf dRef_writeRows_5 qf_Ref_71 hW.cell rfl ?_
  refine go_top (y := nI π.1.1) (by exact hd.1) ?_
  refine go_aload_n dRef_writeRows_8 rfl ?_
  refine go_getf dRef_writeRows_9 qf_Ref_80 hW.cell rfl ?_
  refine go_top (y := nI π.1.2.2.2) (by exact hd.2.2.2) ?_
  refine go_aload_n dRef_writeRows_12 rfl ?_
  refine go_getf dRef_writeRows_13 qf_Ref_77 hW.cell rfl ?_
  refine go_top (y := nI π.1.2.2.1) (by exact hd.2.2.1) ?_
  refine go_statP dRef_writeRows_16 ok_mRef_bytesInRow st_mRef_bytesInRow qm_Ref_174 (r_bytesInRow (d := π.1) ho) ?_ (hnp := np_mRef_bytesInRow)
  refine go_imul dRef_writeRows_19 ?_
  refine go_top (y := nI (π.1.2.1 * rlN π.1)) (by exact pk_mul _ _) ?_
  refine go_istore_n dRef_writeRows_20 ?_
  refine go_iconst (v := 0) dRef_writeRows_21 (by decide) ?_
  refine go_istore_n dRef_writeRows_22 ?_
  exact l_Ref_wRows hd hsa ho hsB 10 0 p h false (by omega) (by omega) (by omega) hB hW (Sm.refl _ _ _) rfl
set_option maxHeartbeats 4000000 in
theorem l_Ref_write1 {E : pmEv} {h0 : pmH} {z : Option Nat} {m : Nat} {g : Nat → Int32} {A : Nat → Nat → Int32} {Q : pmA → pmS → Prop} : ∀ (n : Nat) (k : Nat) (p : aRow) (h : pmH) (d : Bool), k + n = 8 → p.2 + n ≤ 2000 → AllB p → RWr h m g A p → Sm h0 h m 17 → (∀ hx dx, RWr hx m g A (wAs bM k n p) → AllB (wAs bM k n p) → Sm h0 hx m 17 → Go E (mRef_write, h0, 0, 0) 67 [some (.ref m), some (.int (nI 8)), none, none] [] (hx, z, dx) 0 0 Q) → Go E (mRef_write, h0, 0, 0) 47 [some (.ref m), some (.int (nI k)), none, none] [] (h, z, d) 0 0 (Q) := by
  intro n
  induction n with
  | zero =>
    intro k p h d hk hn hB hW hs hkk
    refine go_iload_n dRef_write_47 rfl ?_
    refine go_bipush (v := 8) dRef_write_48 (by decide) ?_
    refine go_icmp_ge (tgt := 67) dRef_write_50 (fun c1 => ?_) (fun c1 => ?_)
    · obtain rfl : k = 8 := by omega
      exact hkk h d hW hB hs
    · exact absurd (nI_le (a := 8) (b := k) (by omega) (by omega)) c1
  | succ n ih =>
    intro k p h d hk hn hB hW hs hkk
    refine go_iload_n dRef_write_47 rfl ?_
    refine go_bipush (v := 8) dRef_write_48 (by decide) ?_
    refine go_icmp_ge (tgt := 67) dRef_write_50 (fun c1 => ?_) (fun c1 => ?_)
    · exact absurd c1 (nI_ge (a := k) (b := 8) (by omega) (by omega))
    · refine go_aload_n dRef_write_53 rfl ?_
      refine go_iload_n dRef_write_54 rfl ?_
      refine go_statP dRef_write_55 ok_mRef_mark st_mRef_mark qm_Ref_182 (r_mark (k := k) (by omega)) ?_ (hnp := np_mRef_mark)
      refine go_virtX dRef_write_58 ok_mRef_tell im_mRef_tell se_mRef_tell qm_Ref_150 hW.cell (r_tell (show p.2 + 0 < 2000 by omega) hW) (fun hx2 d2 q2 => ?_) (hnp := np_mRef_tell)
      have hW2 := q2.1
      have s2 := hs.trans q2.2
      refine go_iinc dRef_write_61 rfl (congrArg (_ + ·) lit1) ?_
      refine go_goto (tgt := 47) dRef_write_64 ?_
      exact go_at (ih (k + 1) (wA p (bM k)) _ _ (by omega) (show p.2 + 1 + n ≤ 2000 by omega) (hB.add (byt_M (by omega))) hW2 s2 hkk) rfl (by rw [nI_succ k]; rfl) rfl rfl
set_option maxHeartbeats 4000000 in
theorem l_Ref_write2 {E : pmEv} {h0 : pmH} {z : Option Nat} {m : Nat} {g : Nat → Int32} {A : Nat → Nat → Int32} {fr : Nat} {Q : pmA → pmS → Prop} : ∀ (n : Nat) (k : Nat) (p : aRow) (h : pmH) (d : Bool), k + n = 3 → p.2 + n ≤ 2000 → AllB p → RWr h m g A p → Sm h0 h m 17 → (∀ hx dx, RWr hx m g A (wAs (fun _ => 0) k n p) → AllB (wAs (fun _ => 0) k n p) → Sm h0 hx m 17 → Go E (mRef_write, h0, 0, 0) 124 [some (.ref m), some (.int (nI fr)), some (.int (nI 3)), none] [] (hx, z, dx) 0 0 Q) → Go E (mRef_write, h0, 0, 0) 108 [some (.ref m), some (.int (nI fr)), some (.int (nI k)), none] [] (h, z, d) 0 0 (Q) := by
  intro n
  induction n with
  | zero =>
    intro k p h d hk hn hB hW hs hkk
    refine go_iload_n dRef_write_108 rfl ?_
    refine go_iconst (v := 3) dRef_write_109 (by decide) ?_
    refine go_icmp_ge (tgt := 124) dRef_write_110 (fun c1 => ?_) (fun c1 => ?_)
    · obtain rfl : k = 3 := by omega
      exact hkk h d hW hB hs
    · exact absurd (nI_le (a := 3) (b := k) (by omega) (by omega)) c1
  | succ n ih =>
    intro k p h d hk hn hB hW hs hkk
    refine go_iload_n dRef_write_108 rfl ?_
    refine go_iconst (v := 3) dRef_write_109 (by decide) ?_
    refine go_icmp_ge (tgt := 124) dRef_write_110 (fun c1 => ?_) (fun c1 => ?_)
    · exact absurd c1 (nI_ge (a := k) (b := 3) (by omega) (by omega))
    · refine go_aload_n dRef_write_113 rfl ?_
      refine go_iconst (v := 0) dRef_write_114 (by decide) ?_
      refine go_virtX dRef_write_115 ok_mRef_tell im_mRef_tell se_mRef_tell qm_Ref_150 hW.cell (r_tell (show p.2 + 0 < 2000 by omega) hW) (fun hx2 d2 q2 => ?_) (hnp := np_mRef_tell)
      have hW2 := q2.1
      have s2 := hs.trans q2.2
      refine go_iinc dRef_write_118 rfl (congrArg (_ + ·) lit1) ?_
      refine go_goto (tgt := 108) dRef_write_121 ?_
      exact go_at (ih (k + 1) (wA p 0) _ _ (by omega) (show p.2 + 1 + n ≤ 2000 by omega) (hB.add ⟨by decide, by decide⟩) hW2 s2 hkk) rfl (by rw [nI_succ k]; rfl) rfl rfl
set_option maxHeartbeats 4000000 in
theorem l_Ref_write_xi {E : pmEv} {h0 : pmH} {z : Option Nat} {m : Nat} {g : Nat → Int32} {A : Nat → Nat → Int32} {α : aPF} (hr : RR g A α) (h00 : g 0 = 0) (t1 : α.1.1 = true) (hv : IvA α) {k fr : Nat} {Q : pmA → pmS → Prop} (hk6 : k < α.1.2.2.2.2.2.2.2.2) : ∀ (n : Nat) (i : Nat) (p : aRow) (h : pmH) (d : Bool), i + n = α.1.2.2.2.2.2.2.1 k → p.2 + n ≤ 2000 → AllB p → RWr h m g A p → Sm h0 h m 17 → (∀ hx dx, RWr hx m g A (wAs (fun i => α.1.2.2.2.2.2.2.2.1 (40 * k + i)) i n p) → AllB (wAs (fun i => α.1.2.2.2.2.2.2.2.1 (40 * k + i)) i n p) → Sm h0 hx m 17 → Go E (mRef_write, h0, 0, 0) 203 [some (.ref m), some (.int (nI fr)), some (.int (nI (k))), some (.int (nI (α.1.2.2.2.2.2.2.1 k)))] [] (hx, z, dx) 0 0 Q) → Go E (mRef_write, h0, 0, 0) 172 [some (.ref m), some (.int (nI fr)), some (.int (nI (k))), some (.int (nI (i)))] [] (h, z, d) 0 0 (Q) := by
  intro n
  induction n with
  | zero =>
    intro i p h d hi hn hB hW hs hkk2
    have hro := hr.1
    have hdd := hr.1.2.1 t1
    have hd := hdd.1
    have hok := hv.1.1
    have hsB := smB_of hv.1
    have hc64 := hv.1.2.1.1
    have hx6 := hv.1.2.2.1.1
    have hq := pkC_le hok
    have hcN := pkC_2 hok
    have hb := hok.b
    have hkk := hok.k
    have hwh := hok.w
    have hE := hro.2.2.2.2
    have hsz := hE.2.1 k hk6
    refine go_iload_n dRef_write_172 rfl ?_
    refine go_aload_n dRef_write_173 rfl ?_
    refine go_getf dRef_write_174 qf_Ref_22 hW.cell rfl ?_
    refine go_iload_n dRef_write_177 rfl ?_
    refine go_iald dRef_write_178 hW.a4 (by exact vp_in_nI (by omega) (by omega)) (congrArg _ (nI_clamp (by omega))) ?_
    refine go_top (y := nI (α.1.2.2.2.2.2.2.1 k)) (by exact hsz.1) ?_
    refine go_icmp_ge (tgt := 203) dRef_write_179 (fun c1 => ?_) (fun c1 => ?_)
    · obtain rfl : i = α.1.2.2.2.2.2.2.1 k := by omega
      exact hkk2 h d hW hB hs
    · exact absurd (nI_le (a := α.1.2.2.2.2.2.2.1 k) (b := i) (by omega) (by omega)) c1
  | succ n ih =>
    intro i p h d hi hn hB hW hs hkk2
    have hro := hr.1
    have hdd := hr.1.2.1 t1
    have hd := hdd.1
    have hok := hv.1.1
    have hsB := smB_of hv.1
    have hc64 := hv.1.2.1.1
    have hx6 := hv.1.2.2.1.1
    have hq := pkC_le hok
    have hcN := pkC_2 hok
    have hb := hok.b
    have hkk := hok.k
    have hwh := hok.w
    have hE := hro.2.2.2.2
    have hsz := hE.2.1 k hk6
    refine go_iload_n dRef_write_172 rfl ?_
    refine go_aload_n dRef_write_173 rfl ?_
    refine go_getf dRef_write_174 qf_Ref_22 hW.cell rfl ?_
    refine go_iload_n dRef_write_177 rfl ?_
    refine go_iald dRef_write_178 hW.a4 (by exact vp_in_nI (by omega) (by omega)) (congrArg _ (nI_clamp (by omega))) ?_
    refine go_top (y := nI (α.1.2.2.2.2.2.2.1 k)) (by exact hsz.1) ?_
    refine go_icmp_ge (tgt := 203) dRef_write_179 (fun c1 => ?_) (fun c1 => ?_)
    · exact absurd c1 (nI_ge (a := i) (b := α.1.2.2.2.2.2.2.1 k) (by omega) (by omega))
    · refine go_aload_n dRef_write_182 rfl ?_
      refine go_aload_n dRef_write_183 rfl ?_
      refine go_getf dRef_write_184 qf_Ref_25 hW.cell rfl ?_
      refine go_bipush (v := 40) dRef_write_187 (by decide) ?_
      refine go_iload_n dRef_write_189 rfl ?_
      refine go_imul dRef_write_190 ?_
      refine go_iload_n dRef_write_191 rfl ?_
      refine go_iadd dRef_write_192 ?_
      refine go_top (y := nI (40 * k + i)) (by rw [show (40 : Int32) = nI 40 from rfl, pk_mul, nI_add]) ?_
      refine go_iald dRef_write_193 hW.a5 (by exact vp_in_nI (by omega) (by omega)) (congrArg _ (nI_clamp (by omega))) ?_
      refine go_top (y := α.1.2.2.2.2.2.2.2.1 (40 * k + i)) (by exact hE.2.2 k hk6 i (by omega)) ?_
      refine go_virtX dRef_write_194 ok_mRef_tell im_mRef_tell se_mRef_tell qm_Ref_150 hW.cell (r_tell (show p.2 + 0 < 2000 by omega) hW) (fun hx2 d2 q2 => ?_) (hnp := np_mRef_tell)
      have hW2 := q2.1
      have s2 := hs.trans q2.2
      refine go_iinc dRef_write_197 rfl (congrArg (_ + ·) lit1) ?_
      refine go_goto (tgt := 172) dRef_write_200 ?_
      exact go_at (ih (i + 1) (wA p (α.1.2.2.2.2.2.2.2.1 (40 * k + i))) _ _ (by omega) (show p.2 + 1 + n ≤ 2000 by omega) (hB.add ((hv.1.2.2.1.2 k hk6).2 i (by omega))) hW2 s2 hkk2) rfl (by rw [nI_succ i]; rfl) rfl rfl
set_option maxHeartbeats 4000000 in
theorem l_Ref_write_x {E : pmEv} {h0 : pmH} {m : Nat} {g : Nat → Int32} {A : Nat → Nat → Int32} {α : aPF} {G : aRow} (hr : RR g A α) (h00 : g 0 = 0) (t1 : α.1.1 = true) (hv : IvA α) : ∀ (n : Nat) (k : Nat) (p : aRow) (h : pmH) (d : Bool), k + n = α.1.2.2.2.2.2.2.2.2 → p.2 + 52 * n + 12 ≤ 2000 → AllB p → RWr h m g A p → Sm h0 h m 17 → G = clW (opW (wXs α.1.2.2.2.2.2 n k p) 1229278788) (wXs α.1.2.2.2.2.2 n k p).2 → Go E (mRef_write, h0, 0, 0) 151 [some (.ref m), none, some (.int (nI (k))), none] [] (h, none, d) 0 0 (RetR m h0 [1] (some (.int 0)) (.inl (some (.int (nI G.2))), (α.1, G, α.2.2))) := by
  intro n
  induction n with
  | zero =>
    intro k p h d hk hn hB hW hs hX
    have hro := hr.1
    have hdd := hr.1.2.1 t1
    have hd := hdd.1
    have hok := hv.1.1
    have hsB := smB_of hv.1
    have hc64 := hv.1.2.1.1
    have hx6 := hv.1.2.2.1.1
    have hq := pkC_le hok
    have hcN := pkC_2 hok
    have hb := hok.b
    have hkk := hok.k
    have hwh := hok.w
    have hE := hro.2.2.2.2
    refine go_iload_n dRef_write_151 rfl ?_
    refine go_aload_n dRef_write_152 rfl ?_
    refine go_getf dRef_write_153 qf_Ref_86 hW.cell rfl ?_
    refine go_top (y := nI α.1.2.2.2.2.2.2.2.2) (by exact hro.2.2.2.1) ?_
    refine go_icmp_ge (tgt := 214) dRef_write_156 (fun c1 => ?_) (fun c1 => ?_)
    · refine go_aload_n dRef_write_214 rfl ?_
      refine go_aload_n dRef_write_215 rfl ?_
      refine go_ldc dRef_write_216 qc_Ref_195 ?_
      refine go_virtX dRef_write_218 ok_mRef_open im_mRef_open se_mRef_open qm_Ref_167 hW.cell (r_open (show p.2 + 0 + 8 ≤ 2000 by omega) hW) (fun hx2 d2 q2 => ?_) (hnp := np_mRef_open)
      have hW2 := q2.1
      have s2 := hs.trans q2.2
      refine go_virtX dRef_write_221 ok_mRef_close im_mRef_close se_mRef_close qm_Ref_170 hW2.cell (r_close (show p.2 + 0 + 8 ≤ p.2 + 8 by omega) (show p.2 + 8 + 4 ≤ 2000 by omega) (hB.op) hW2) (fun hx3 d3 q3 => ?_) (hnp := np_mRef_close)
      have hW3 := q3.1
      have s3 := s2.trans q3.2
      refine go_aload_n dRef_write_224 rfl ?_
      refine go_getf dRef_write_225 qf_Ref_147 hW3.cell rfl ?_
      refine go_top (y := nI (p.2 + 12)) (by exact rfl) ?_
      refine go_iret dRef_write_228 rfl rfl ?_ (Nat.le_of_ble_eq_true rfl) (Nat.le_of_ble_eq_true rfl)
      obtain ⟨f9, hR9, hf9⟩ := id hW3
      rw [show G = _ from hX]
      exact retR_ok (β := (α.1, _, α.2.2)) rfl hR9 ⟨hr.1, ⟨rfl, hf9⟩, hr.2.2.1, hr.2.2.2⟩ h00 s3
    · exact absurd (nI_le (a := α.1.2.2.2.2.2.2.2.2) (b := k) (by omega) (by omega)) c1
  | succ n ih =>
    intro k p h d hk hn hB hW hs hX
    have hro := hr.1
    have hdd := hr.1.2.1 t1
    have hd := hdd.1
    have hok := hv.1.1
    have hsB := smB_of hv.1
    have hc64 := hv.1.2.1.1
    have hx6 := hv.1.2.2.1.1
    have hq := pkC_le hok
    have hcN := pkC_2 hok
    have hb := hok.b
    have hkk := hok.k
    have hwh := hok.w
    have hE := hro.2.2.2.2
    refine go_iload_n dRef_write_151 rfl ?_
    refine go_aload_n dRef_write_152 rfl ?_
    refine go_getf dRef_write_153 qf_Ref_86 hW.cell rfl ?_
    refine go_top (y := nI α.1.2.2.2.2.2.2.2.2) (by exact hro.2.2.2.1) ?_
    refine go_icmp_ge (tgt := 214) dRef_write_156 (fun c1 => ?_) (fun c1 => ?_)
    · exact absurd c1 (nI_ge (a := k) (b := α.1.2.2.2.2.2.2.2.2) (by omega) (by omega))
    · refine go_aload_n dRef_write_159 rfl ?_
      refine go_aload_n dRef_write_160 rfl ?_
      refine go_getf dRef_write_161 qf_Ref_19 hW.cell rfl ?_
      refine go_iload_n dRef_write_164 rfl ?_
      refine go_iald dRef_write_165 hW.a3 (by exact vp_in_nI (by omega) (by omega)) (congrArg _ (nI_clamp (by omega))) ?_
      refine go_top (y := α.1.2.2.2.2.2.1 k) (by exact hE.1 k (by omega)) ?_
      refine go_virtX dRef_write_166 ok_mRef_open im_mRef_open se_mRef_open qm_Ref_167 hW.cell (r_open (show p.2 + 0 + 8 ≤ 2000 by omega) hW) (fun hx2 d2 q2 => ?_) (hnp := np_mRef_open)
      have hW2 := q2.1
      have s2 := hs.trans q2.2
      refine go_istore_n dRef_write_169 ?_
      refine go_iconst (v := 0) dRef_write_170 (by decide) ?_
      refine go_istore_n dRef_write_171 ?_
      have hsz := hE.2.1 k (by omega)
      have e1 := wAs_2 (fun i => α.1.2.2.2.2.2.2.2.1 (40 * k + i)) (α.1.2.2.2.2.2.2.1 k) 0 (opW p (α.1.2.2.2.2.2.1 k))
      have e2 : (opW p (α.1.2.2.2.2.2.1 k)).2 = p.2 + 8 := rfl
      refine l_Ref_write_xi (fr := p.2) hr h00 t1 hv (k := k) (by omega) (α.1.2.2.2.2.2.2.1 k) 0 (opW p (α.1.2.2.2.2.2.1 k)) _ _ (by omega) (show p.2 + 8 + α.1.2.2.2.2.2.2.1 k ≤ 2000 by omega) (hB.op) hW2 s2 (fun hx3 dx3 hW3 hB3 hs3 => ?_)
      refine go_aload_n dRef_write_203 rfl ?_
      refine go_iload_n dRef_write_204 rfl ?_
      refine go_virtX dRef_write_205 ok_mRef_close im_mRef_close se_mRef_close qm_Ref_170 hW3.cell (r_close (p := (wAs (fun i => α.1.2.2.2.2.2.2.2.1 (40 * k + i)) 0 (α.1.2.2.2.2.2.2.1 k) (opW p (α.1.2.2.2.2.2.1 k)))) (a := p.2) (by rw [e1, e2]; omega) (by rw [e1, e2]; omega) hB3 hW3) (fun hx4 d4 q4 => ?_) (hnp := np_mRef_close)
      refine go_iinc dRef_write_208 rfl (congrArg (_ + ·) lit1) ?_
      refine go_goto (tgt := 151) dRef_write_211 ?_
      refine go_fg 1 (go_fg 3 ?_)
      exact go_at (ih (k + 1) (clW (wAs (fun i => α.1.2.2.2.2.2.2.2.1 (40 * k + i)) 0 (α.1.2.2.2.2.2.2.1 k) (opW p (α.1.2.2.2.2.2.1 k))) p.2) hx4 d4 (by omega) (by show (wAs (fun i => α.1.2.2.2.2.2.2.2.1 (40 * k + i)) 0 (α.1.2.2.2.2.2.2.1 k) (opW p (α.1.2.2.2.2.2.1 k))).2 + 4 + 52 * n + 12 ≤ 2000; rw [e1, e2]; omega) (hB3.cl (by rw [e1, e2]; omega)) q4.1 (hs3.trans q4.2) (by rw [hX, wXs])) rfl (by rw [nI_succ k]; rfl) rfl rfl
