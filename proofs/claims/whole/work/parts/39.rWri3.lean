/-! ===== the reference: writing (by wip/whole/gen_rWri3.py) ===== -/
theorem byt_M {k : Nat} (hk : k < 8) : byt (bM k) := by
  have q : ∀ k : Fin 8, byt (bM k.1) := by decide
  exact q ⟨k, hk⟩
theorem smB_of {π : aPic} (hv : IvP π) : smB π := fun y hy s hs => by
  have hc := chN_le π.1.2.2.2
  have hb := hv.1.b
  have h := hv.2.2.2.1 (s / chN π.1.2.2.2) (Nat.div_lt_of_lt_mul (by rw [Nat.mul_comm]; exact hs)) y hy (s % chN π.1.2.2.2) (Nat.mod_lt _ (by omega))
  unfold sN
  rw [if_pos hs]
  generalize π.2.1 ((y * 12 + s / chN π.1.2.2.2) * 4 + s % chN π.1.2.2.2) = v at *
  obtain ⟨n, hn, rfl⟩ := nI_of (Int32.not_lt.mpr h.1)
  rw [nI_clamp hn]
  have h2 := (le_gr hb.2).mp h.2.1
  have p2 := (p2_b hb.1 hb.2)
  exact ⟨rfl, Nat.not_le.mp fun q => h2 (nI_le q hn)⟩
set_option maxHeartbeats 4000000 in
theorem l_Ref_wRows_in {E : pmEv} {h0 : pmH} {z : Option Nat} {m : Nat} {g : Nat → Int32} {A : Nat → Nat → Int32} {π : aPic} (hd : g 2 = nI π.1.1 ∧ g 3 = nI π.1.2.1 ∧ g 4 = nI π.1.2.2.1 ∧ g 5 = nI π.1.2.2.2) (hsa : SaR (A 0) π.2.1 π.1) (ho : okN π.1) (hsB : smB π) {a e fr : Nat} {Q : pmA → pmS → Prop} (ha : a ≤ 660) (he : e = min (π.1.2.1 * rlN π.1) (a + 60)) : ∀ (n : Nat) (i : Nat) (p : aRow) (h : pmH) (d : Bool), i + n = e → p.2 + n ≤ 2000 → AllB p → RWr h m g A p → Sm h0 h m 17 → (∀ hx dx, RWr hx m g A (wAs (pkC π).1 i n p) → AllB (wAs (pkC π).1 i n p) → Sm h0 hx m 17 → Go E (mRef_writeRows, h0, 0, 0) 69 [some (.ref m), some (.int (nI (π.1.2.1 * rlN π.1))), some (.int (nI a)), some (.int (nI fr)), some (.int (nI (e)))] [] (hx, z, dx) 0 0 Q) → Go E (mRef_writeRows, h0, 0, 0) 38 [some (.ref m), some (.int (nI (π.1.2.1 * rlN π.1))), some (.int (nI a)), some (.int (nI fr)), some (.int (nI (i)))] [] (h, z, d) 0 0 (Q) := by
  intro n
  induction n with
  | zero =>
    intro i p h d hi hn hB hW hs hk
    have hb := ho.b
    have hwh := ho.w
    have hkk := ho.k
    have hch := chN_le π.1.2.2.2
    have hrb := rbN_le ho
    have hrl : 1 ≤ rlN π.1 ∧ rlN π.1 ≤ 49 := by unfold rlN; omega
    have hNN : (π.1.2.1 * rlN π.1) ≤ 588 := by rw [Nat.mul_comm]; exact rlH_le ho
    refine go_iload dRef_writeRows_38 rfl ?_
    refine go_iload_n dRef_writeRows_40 rfl ?_
    refine go_icmp_ge (tgt := 69) dRef_writeRows_41 (fun c1 => ?_) (fun c1 => ?_)
    · obtain rfl : i = e := by omega
      exact hk h d hW hB hs
    · refine go_iload dRef_writeRows_44 rfl ?_
      refine go_iload_n dRef_writeRows_46 rfl ?_
      refine go_bipush (v := 60) dRef_writeRows_47 (by decide) ?_
      refine go_iadd dRef_writeRows_49 ?_
      refine go_top (y := nI (a + 60)) (by exact nI_add a 60) ?_
      refine go_icmp_ge (tgt := 69) dRef_writeRows_50 (fun c2 => ?_) (fun c2 => ?_)
      · obtain rfl : i = e := by omega
        exact hk h d hW hB hs
      · exact absurd (show i < e from Nat.lt_of_not_le fun q => (show ¬ ((π.1.2.1 * rlN π.1) ≤ i ∨ a + 60 ≤ i) from fun x => x.elim (fun y => c1 (nI_le y (by omega))) (fun y => c2 (nI_le y (by omega)))) (by omega)) (by omega)
  | succ n ih =>
    intro i p h d hi hn hB hW hs hk
    have hb := ho.b
    have hwh := ho.w
    have hkk := ho.k
    have hch := chN_le π.1.2.2.2
    have hrb := rbN_le ho
    have hrl : 1 ≤ rlN π.1 ∧ rlN π.1 ≤ 49 := by unfold rlN; omega
    have hNN : (π.1.2.1 * rlN π.1) ≤ 588 := by rw [Nat.mul_comm]; exact rlH_le ho
    refine go_iload dRef_writeRows_38 rfl ?_
    refine go_iload_n dRef_writeRows_40 rfl ?_
    refine go_icmp_ge (tgt := 69) dRef_writeRows_41 (fun c1 => ?_) (fun c1 => ?_)
    · exact absurd c1 (nI_ge (a := i) (b := (π.1.2.1 * rlN π.1)) (by omega) (by omega))
    · refine go_iload dRef_writeRows_44 rfl ?_
      refine go_iload_n dRef_writeRows_46 rfl ?_
      refine go_bipush (v := 60) dRef_writeRows_47 (by decide) ?_
      refine go_iadd dRef_writeRows_49 ?_
      refine go_top (y := nI (a + 60)) (by exact nI_add a 60) ?_
      refine go_icmp_ge (tgt := 69) dRef_writeRows_50 (fun c2 => ?_) (fun c2 => ?_)
      · exact absurd c2 (nI_ge (a := i) (b := a + 60) (by omega) (by omega))
      · refine go_aload_n dRef_writeRows_53 rfl ?_
        refine go_aload_n dRef_writeRows_54 rfl ?_
        refine go_iload dRef_writeRows_55 rfl ?_
        refine go_virtP dRef_writeRows_57 ok_mRef_rowByte im_mRef_rowByte se_mRef_rowByte qm_Ref_179 hW.cell (r_rowByte (π := π) (i := i) hd hsa ho hsB (by omega) hW) ?_ (hnp := np_mRef_rowByte)
        refine go_top (y := (pkC π).1 i) (by exact (pkC_v ho hsB (by omega)).symm) ?_
        refine go_virtX dRef_writeRows_60 ok_mRef_tell im_mRef_tell se_mRef_tell qm_Ref_150 hW.cell (r_tell (show p.2 + 0 < 2000 by omega) hW) (fun hx3 d3 q3 => ?_) (hnp := np_mRef_tell)
        have hW3 := q3.1
        have s3 := hs.trans q3.2
        refine go_iinc dRef_writeRows_63 rfl (congrArg (_ + ·) lit1) ?_
        refine go_goto (tgt := 38) dRef_writeRows_66 ?_
        exact go_at (ih (i + 1) (wA p ((pkC π).1 i)) _ _ (by omega) (show p.2 + 1 + n ≤ 2000 by omega) (hB.add (by rw [pkC_v ho hsB (by omega)]; exact byt_n (rwB_lt _ _ _))) hW3 s3 hk) rfl (by rw [nI_succ i]; rfl) rfl rfl
set_option maxHeartbeats 4000000 in
theorem l_Ref_wRows {E : pmEv} {h0 : pmH} {z : Option Nat} {m : Nat} {g : Nat → Int32} {A : Nat → Nat → Int32} {G : aRow} {π : aPic} (hd : g 2 = nI π.1.1 ∧ g 3 = nI π.1.2.1 ∧ g 4 = nI π.1.2.2.1 ∧ g 5 = nI π.1.2.2.2) (hsa : SaR (A 0) π.2.1 π.1) (ho : okN π.1) (hsB : smB π) : ∀ (n : Nat) (a : Nat) (p : aRow) (h : pmH) (d : Bool), a ≤ 660 → (π.1.2.1 * rlN π.1) ≤ a + 60 * n → p.2 + ((π.1.2.1 * rlN π.1) - a) + 12 * n ≤ 2000 → AllB p → RWr h m g A p → Sm h0 h m 17 → G = wRs (pkC π) n a p → Go E (mRef_writeRows, h0, 0, 0) 23 [some (.ref m), some (.int (nI (π.1.2.1 * rlN π.1))), some (.int (nI a)), none, none] [] (h, z, d) 0 0 (RetX none (fun h' => RWr h' m g A G ∧ AllB G ∧ Sm h0 h' m 17) z) := by
  intro n
  induction n with
  | zero =>
    intro a p h d ha hn hl hB hW hs hG
    have hb := ho.b
    have hwh := ho.w
    have hkk := ho.k
    have hch := chN_le π.1.2.2.2
    have hrb := rbN_le ho
    have hrl : 1 ≤ rlN π.1 ∧ rlN π.1 ≤ 49 := by unfold rlN; omega
    have hNN : (π.1.2.1 * rlN π.1) ≤ 588 := by rw [Nat.mul_comm]; exact rlH_le ho
    have hcN := pkC_2 ho
    refine go_iload_n dRef_writeRows_23 rfl ?_
    refine go_iload_n dRef_writeRows_24 rfl ?_
    refine go_icmp_ge (tgt := 80) dRef_writeRows_25 (fun c1 => ?_) (fun c1 => ?_)
    · refine go_vret dRef_writeRows_80 rfl ?_ (Nat.le_of_ble_eq_true rfl) (Nat.le_of_ble_eq_true rfl)
      rw [show G = p from hG]
      exact retX ⟨hW, hB, hs⟩
    · exact absurd (nI_le (a := (π.1.2.1 * rlN π.1)) (b := a) (by omega) (by omega)) c1
  | succ n ih =>
    intro a p h d ha hn hl hB hW hs hG
    have hb := ho.b
    have hwh := ho.w
    have hkk := ho.k
    have hch := chN_le π.1.2.2.2
    have hrb := rbN_le ho
    have hrl : 1 ≤ rlN π.1 ∧ rlN π.1 ≤ 49 := by unfold rlN; omega
    have hNN : (π.1.2.1 * rlN π.1) ≤ 588 := by rw [Nat.mul_comm]; exact rlH_le ho
    have hcN := pkC_2 ho
    refine go_iload_n dRef_writeRows_23 rfl ?_
    refine go_iload_n dRef_writeRows_24 rfl ?_
    refine go_icmp_ge (tgt := 80) dRef_writeRows_25 (fun c1 => ?_) (fun c1 => ?_)
    · refine go_vret dRef_writeRows_80 rfl ?_ (Nat.le_of_ble_eq_true rfl) (Nat.le_of_ble_eq_true rfl)
      rw [show G = p from by rw [hG, wRs, if_neg (fun e => absurd c1 (nI_ge (hcN ▸ e) (by omega)))]]
      exact retX ⟨hW, hB, hs⟩
    · refine go_aload_n dRef_writeRows_28 rfl ?_
      refine go_ldc dRef_writeRows_29 qc_Ref_178 ?_
      refine go_virtX dRef_writeRows_31 ok_mRef_open im_mRef_open se_mRef_open qm_Ref_167 hW.cell (r_open (show p.2 + 0 + 8 ≤ 2000 by omega) hW) (fun hx2 d2 q2 => ?_) (hnp := np_mRef_open)
      have hW2 := q2.1
      have s2 := hs.trans q2.2
      refine go_istore_n dRef_writeRows_34 ?_
      refine go_iload_n dRef_writeRows_35 rfl ?_
      refine go_istore dRef_writeRows_36 ?_
      have hlt : a < (pkC π).2 := by rw [hcN]; exact Nat.not_le.mp fun e => c1 (nI_le e (by omega))
      have e1 := wAs_2 (pkC π).1 (min (pkC π).2 (a + 60) - a) a (opW p 1229209940)
      have e2 : (opW p 1229209940).2 = p.2 + 8 := rfl
      refine l_Ref_wRows_in (fr := p.2) hd hsa ho hsB ha (e := min (π.1.2.1 * rlN π.1) (a + 60)) rfl (min (pkC π).2 (a + 60) - a) a (opW p 1229209940) _ _ (by rw [hcN]; omega) (show p.2 + 8 + (min (pkC π).2 (a + 60) - a) ≤ 2000 by omega) (hB.op) hW2 s2 (fun hx3 dx3 hW3 hB3 hs3 => ?_)
      refine go_aload_n dRef_writeRows_69 rfl ?_
      refine go_iload_n dRef_writeRows_70 rfl ?_
      refine go_virtX dRef_writeRows_71 ok_mRef_close im_mRef_close se_mRef_close qm_Ref_170 hW3.cell (r_close (p := (wAs (pkC π).1 a (min (pkC π).2 (a + 60) - a) (opW p 1229209940))) (a := p.2) (by rw [e1, e2]; omega) (by rw [e1, e2]; omega) hB3 hW3) (fun hx4 d4 q4 => ?_) (hnp := np_mRef_close)
      refine go_iinc dRef_writeRows_74 rfl rfl ?_
      refine go_goto (tgt := 23) dRef_writeRows_77 ?_
      refine go_fg 3 (go_fg 4 ?_)
      exact go_at (ih (a + 60) (clW (wAs (pkC π).1 a (min (pkC π).2 (a + 60) - a) (opW p 1229209940)) p.2) hx4 d4 (by omega) (by omega) (by show (wAs (pkC π).1 a (min (pkC π).2 (a + 60) - a) (opW p 1229209940)).2 + 4 + ((π.1.2.1 * rlN π.1) - (a + 60)) + 12 * n ≤ 2000; rw [e1, e2]; omega) (hB3.cl (by rw [e1, e2]; omega)) q4.1 (hs3.trans q4.2) (by rw [hG, wRs, if_pos hlt])) rfl (by rw [show nI (a + 60) = nI a + Int32.ofInt 60 from (nI_add a 60).symm]; rfl) rfl rfl
set_option maxHeartbeats 4000000 in
theorem r_writeRows {E : pmEv} {h : pmH} {z : Option Nat} {m : Nat} {g : Nat → Int32} {A : Nat → Nat → Int32} {p : aRow} {π : aPic} (hd : g 2 = nI π.1.1 ∧ g 3 = nI π.1.2.1 ∧ g 4 = nI π.1.2.2.1 ∧ g 5 = nI π.1.2.2.2) (hsa : SaR (A 0) π.2.1 π.1) (ho : okN π.1) (hsB : smB π) (hn : p.2 + (π.1.2.1 * rlN π.1) + 120 ≤ 2000) (hB : AllB p) (hW : RWr h m g A p) : Call E mRef_writeRows [.ref m] h z 0 0 (RetX none (fun h' => RWr h' m g A (wRs (pkC π) 10 0 p) ∧ AllB (wRs (pkC π) 10 0 p) ∧ Sm h h' m 17) z) := by
  have hb := ho.b
  have hwh := ho.w
  have hkk := ho.k
  have hch := chN_le π.1.2.2.2
  have hrb := rbN_le ho
  have hrl : 1 ≤ rlN π.1 ∧ rlN π.1 ≤ 49 := by unfold rlN; omega
  have hNN : (π.1.2.1 * rlN π.1) ≤ 588 := by rw [Nat.mul_comm]; exact rlH_le ho
  refine call_of (L := [some (.ref m), none, none, none, none]) ok_mRef_writeRows (Nat.le_of_ble_eq_true rfl) ?_
  refine go_aload_n dRef_writeRows_0 rfl ?_
  refine go_getf dRef_writeRows_1 qf_Ref_74 hW.cell rfl ?_
  refine go_top (y := nI π.1.2.1) (by exact hd.2.1) ?_
  refine go_aload_n dRef_writeRows_4 rfl ?_
  refine go_getf dRef_writeRows_5 qf_Ref_71 hW.cell rfl ?_
  refine go_top (y := nI π.1.1) (by exact hd.1) ?_
  refine go_aload_n dRef_writeRows_8 rfl ?_
  refine go_getf dRef_writeRows_9 qf_Ref_80 hW.cell rfl ?_
  refine go_top (y := nI π.1.2.2.2) (by exact hd.2.2.2) ?_
  refine go_aload_n dRef_writeRows_12 rfl ?_
  refine go_getf dRef_writeRows_13 qf_Ref_77 hW.cell rfl ?_
  refine go_top (y := nI π.1.2.2.1) (by exact hd.2.2.1) ?_
  refine go_statP dRef_writeRows_16 ok_mRef_bytesInRow st_mRef_bytesInRow qm_Ref_174 (r_bytesInRow (d := π.1) ho) ?_ (hnp := np_mRef_bytesInRow)
  refine go_imul dRef_writeRows_19 ?_
  refine go_top (y := nI (π.1.2.1 * rlN π.1)) (by exact pk_mul _ _) ?_
  refine go_istore_n dRef_writeRows_20 ?_
  refine go_iconst (v := 0) dRef_writeRows_21 (by decide) ?_
  refine go_istore_n dRef_writeRows_22 ?_
  exact l_Ref_wRows hd hsa ho hsB 10 0 p h false (by omega) (by omega) (by omega) hB hW (Sm.refl _ _ _) rfl
set_option maxHeartbeats 4000000 in
theorem l_Ref_write1 {E : pmEv} {h0 : pmH} {z : Option Nat} {m : Nat} {g : Nat → Int32} {A : Nat → Nat → Int32} {Q : pmA → pmS → Prop} : ∀ (n : Nat) (k : Nat) (p : aRow) (h : pmH) (d : Bool), k + n = 8 → p.2 + n ≤ 2000 → AllB p → RWr h m g A p → Sm h0 h m 17 → (∀ hx dx, RWr hx m g A (wAs bM k n p) → AllB (wAs bM k n p) → Sm h0 hx m 17 → Go E (mRef_write, h0, 0, 0) 67 [some (.ref m), some (.int (nI 8)), none, none] [] (hx, z, dx) 0 0 Q) → Go E (mRef_write, h0, 0, 0) 47 [some (.ref m), some (.int (nI k)), none, none] [] (h, z, d) 0 0 (Q) := by
  intro n
  induction n with
  | zero =>
    intro k p h d hk hn hB hW hs hkk
    refine go_iload_n dRef_write_47 rfl ?_
    refine go_bipush (v := 8) dRef_write_48 (by decide) ?_
    refine go_icmp_ge (tgt := 67) dRef_write_50 (fun c1 => ?_) (fun c1 => ?_)
    · obtain rfl : k = 8 := by omega
      exact hkk h d hW hB hs
    · exact absurd (nI_le (a := 8) (b := k) (by omega) (by omega)) c1
  | succ n ih =>
    intro k p h d hk hn hB hW hs hkk
    refine go_iload_n dRef_write_47 rfl ?_
    refine go_bipush (v := 8) dRef_write_48 (by decide) ?_
    refine go_icmp_ge (tgt := 67) dRef_write_50 (fun c1 => ?_) (fun c1 => ?_)
    · exact absurd c1 (nI_ge (a := k) (b := 8) (by omega) (by omega))
    · refine go_aload_n dRef_write_53 rfl ?_
      refine go_iload_n dRef_write_54 rfl ?_
      refine go_statP dRef_write_55 ok_mRef_mark st_mRef_mark qm_Ref_182 (r_mark (k := k) (by omega)) ?_ (hnp := np_mRef_mark)
      refine go_virtX dRef_write_58 ok_mRef_tell im_mRef_tell se_mRef_tell qm_Ref_150 hW.cell (r_tell (show p.2 + 0 < 2000 by omega) hW) (fun hx2 d2 q2 => ?_) (hnp := np_mRef_tell)
      have hW2 := q2.1
      have s2 := hs.trans q2.2
      refine go_iinc dRef_write_61 rfl (congrArg (_ + ·) lit1) ?_
      refine go_goto (tgt := 47) dRef_write_64 ?_
      exact go_at (ih (k + 1) (wA p (bM k)) _ _ (by omega) (show p.2 + 1 + n ≤ 2000 by omega) (hB.add (byt_M (by omega))) hW2 s2 hkk) rfl (by rw [nI_succ k]; rfl) rfl rfl
set_option maxHeartbeats 4000000 in
theorem l_Ref_write2 {E : pmEv} {h0 : pmH} {z : Option Nat} {m : Nat} {g : Nat → Int32} {A : Nat → Nat → Int32} {fr : Nat} {Q : pmA → pmS → Prop} : ∀ (n : Nat) (k : Nat) (p : aRow) (h : pmH) (d : Bool), k + n = 3 → p.2 + n ≤ 2000 → AllB p → RWr h m g A p → Sm h0 h m 17 → (∀ hx dx, RWr hx m g A (wAs (fun _ => 0) k n p) → AllB (wAs (fun _ => 0) k n p) → Sm h0 hx m 17 → Go E (mRef_write, h0, 0, 0) 124 [some (.ref m), some (.int (nI fr)), some (.int (nI 3)), none] [] (hx, z, dx) 0 0 Q) → Go E (mRef_write, h0, 0, 0) 108 [some (.ref m), some (.int (nI fr)), some (.int (nI k)), none] [] (h, z, d) 0 0 (Q) := by
  intro n
  induction n with
  | zero =>
    intro k p h d hk hn hB hW hs hkk
    refine go_iload_n dRef_write_108 rfl ?_
    refine go_iconst (v := 3) dRef_write_109 (by decide) ?_
    refine go_icmp_ge (tgt := 124) dRef_write_110 (fun c1 => ?_) (fun c1 => ?_)
    · obtain rfl : k = 3 := by omega
      exact hkk h d hW hB hs
    · exact absurd (nI_le (a := 3) (b := k) (by omega) (by omega)) c1
  | succ n ih =>
    intro k p h d hk hn hB hW hs hkk
    refine go_iload_n dRef_write_108 rfl ?_
    refine go_iconst (v := 3) dRef_write_109 (by decide) ?_
    refine go_icmp_ge (tgt := 124) dRef_write_110 (fun c1 => ?_) (fun c1 => ?_)
    · exact absurd c1 (nI_ge (a := k) (b := 3) (by omega) (by omega))
    · refine go_aload_n dRef_write_113 rfl ?_
      refine go_iconst (v := 0) dRef_write_114 (by decide) ?_
      refine go_virtX dRef_write_115 ok_mRef_tell im_mRef_tell se_mRef_tell qm_Ref_150 hW.cell (r_tell (show p.2 + 0 < 2000 by omega) hW) (fun hx2 d2 q2 => ?_) (hnp := np_mRef_tell)
      have hW2 := q2.1
      have s2 := hs.trans q2.2
      refine go_iinc dRef_write_118 rfl (congrArg (_ + ·) lit1) ?_
      refine go_goto (tgt := 108) dRef_write_121 ?_
      exact go_at (ih (k + 1) (wA p 0) _ _ (by omega) (show p.2 + 1 + n ≤ 2000 by omega) (hB.add ⟨by decide, by decide⟩) hW2 s2 hkk) rfl (by rw [nI_succ k]; rfl) rfl rfl
set_option maxHeartbeats 4000000 in
theorem l_Ref_write_xi {E : pmEv} {h0 : pmH} {z : Option Nat} {m : Nat} {g : Nat → Int32} {A : Nat → Nat → Int32} {α : aPF} (hr : RR g A α) (h00 : g 0 = 0) (t1 : α.1.1 = true) (hv : IvA α) {k fr : Nat} {Q : pmA → pmS → Prop} (hk6 : k < α.1.2.2.2.2.2.2.2.2) : ∀ (n : Nat) (i : Nat) (p : aRow) (h : pmH) (d : Bool), i + n = α.1.2.2.2.2.2.2.1 k → p.2 + n ≤ 2000 → AllB p → RWr h m g A p → Sm h0 h m 17 → (∀ hx dx, RWr hx m g A (wAs (fun i => α.1.2.2.2.2.2.2.2.1 (40 * k + i)) i n p) → AllB (wAs (fun i => α.1.2.2.2.2.2.2.2.1 (40 * k + i)) i n p) → Sm h0 hx m 17 → Go E (mRef_write, h0, 0, 0) 203 [some (.ref m), some (.int (nI fr)), some (.int (nI (k))), some (.int (nI (α.1.2.2.2.2.2.2.1 k)))] [] (hx, z, dx) 0 0 Q) → Go E (mRef_write, h0, 0, 0) 172 [some (.ref m), some (.int (nI fr)), some (.int (nI (k))), some (.int (nI (i)))] [] (h, z, d) 0 0 (Q) := by
  intro n
  induction n with
  | zero =>
    intro i p h d hi hn hB hW hs hkk2
    have hro := hr.1
    have hdd := hr.1.2.1 t1
    have hd := hdd.1
    have hok := hv.1.1
    have hsB := smB_of hv.1
    have hc64 := hv.1.2.1.1
    have hx6 := hv.1.2.2.1.1
    have hq := pkC_le hok
    have hcN := pkC_2 hok
    have hb := hok.b
    have hkk := hok.k
    have hwh := hok.w
    have hE := hro.2.2.2.2
    have hsz := hE.2.1 k hk6
    refine go_iload_n dRef_write_172 rfl ?_
    refine go_aload_n dRef_write_173 rfl ?_
    refine go_getf dRef_write_174 qf_Ref_22 hW.cell rfl ?_
    refine go_iload_n dRef_write_177 rfl ?_
    refine go_iald dRef_write_178 hW.a4 (by exact vp_in_nI (by omega) (by omega)) (congrArg _ (nI_clamp (by omega))) ?_
    refine go_top (y := nI (α.1.2.2.2.2.2.2.1 k)) (by exact hsz.1) ?_
    refine go_icmp_ge (tgt := 203) dRef_write_179 (fun c1 => ?_) (fun c1 => ?_)
    · obtain rfl : i = α.1.2.2.2.2.2.2.1 k := by omega
      exact hkk2 h d hW hB hs
    · exact absurd (nI_le (a := α.1.2.2.2.2.2.2.1 k) (b := i) (by omega) (by omega)) c1
  | succ n ih =>
    intro i p h d hi hn hB hW hs hkk2
    have hro := hr.1
    have hdd := hr.1.2.1 t1
    have hd := hdd.1
    have hok := hv.1.1
    have hsB := smB_of hv.1
    have hc64 := hv.1.2.1.1
    have hx6 := hv.1.2.2.1.1
    have hq := pkC_le hok
    have hcN := pkC_2 hok
    have hb := hok.b
    have hkk := hok.k
    have hwh := hok.w
    have hE := hro.2.2.2.2
    have hsz := hE.2.1 k hk6
    refine go_iload_n dRef_write_172 rfl ?_
    refine go_aload_n dRef_write_173 rfl ?_
    refine go_getf dRef_write_174 qf_Ref_22 hW.cell rfl ?_
    refine go_iload_n dRef_write_177 rfl ?_
    refine go_iald dRef_write_178 hW.a4 (by exact vp_in_nI (by omega) (by omega)) (congrArg _ (nI_clamp (by omega))) ?_
    refine go_top (y := nI (α.1.2.2.2.2.2.2.1 k)) (by exact hsz.1) ?_
    refine go_icmp_ge (tgt := 203) dRef_write_179 (fun c1 => ?_) (fun c1 => ?_)
    · exact absurd c1 (nI_ge (a := i) (b := α.1.2.2.2.2.2.2.1 k) (by omega) (by omega))
    · refine go_aload_n dRef_write_182 rfl ?_
      refine go_aload_n dRef_write_183 rfl ?_
      refine go_getf dRef_write_184 qf_Ref_25 hW.cell rfl ?_
      refine go_bipush (v := 40) dRef_write_187 (by decide) ?_
      refine go_iload_n dRef_write_189 rfl ?_
      refine go_imul dRef_write_190 ?_
      refine go_iload_n dRef_write_191 rfl ?_
      refine go_iadd dRef_write_192 ?_
      refine go_top (y := nI (40 * k + i)) (by rw [show (40 : Int32) = nI 40 from rfl, pk_mul, nI_add]) ?_
      refine go_iald dRef_write_193 hW.a5 (by exact vp_in_nI (by omega) (by omega)) (congrArg _ (nI_clamp (by omega))) ?_
      refine go_top (y := α.1.2.2.2.2.2.2.2.1 (40 * k + i)) (by exact hE.2.2 k hk6 i (by omega)) ?_
      refine go_virtX dRef_write_194 ok_mRef_tell im_mRef_tell se_mRef_tell qm_Ref_150 hW.cell (r_tell (show p.2 + 0 < 2000 by omega) hW) (fun hx2 d2 q2 => ?_) (hnp := np_mRef_tell)
      have hW2 := q2.1
      have s2 := hs.trans q2.2
      refine go_iinc dRef_write_197 rfl (congrArg (_ + ·) lit1) ?_
      refine go_goto (tgt := 172) dRef_write_200 ?_
      exact go_at (ih (i + 1) (wA p (α.1.2.2.2.2.2.2.2.1 (40 * k + i))) _ _ (by omega) (show p.2 + 1 + n ≤ 2000 by omega) (hB.add ((hv.1.2.2.1.2 k hk6).2 i (by omega))) hW2 s2 hkk2) rfl (by rw [nI_succ i]; rfl) rfl rfl
set_option maxHeartbeats 4000000 in
theorem l_Ref_write_x {E : pmEv} {h0 : pmH} {m : Nat} {g : Nat → Int32} {A : Nat → Nat → Int32} {α : aPF} {G : aRow} (hr : RR g A α) (h00 : g 0 = 0) (t1 : α.1.1 = true) (hv : IvA α) : ∀ (n : Nat) (k : Nat) (p : aRow) (h : pmH) (d : Bool), k + n = α.1.2.2.2.2.2.2.2.2 → p.2 + 52 * n + 12 ≤ 2000 → AllB p → RWr h m g A p → Sm h0 h m 17 → G = clW (opW (wXs α.1.2.2.2.2.2 n k p) 1229278788) (wXs α.1.2.2.2.2.2 n k p).2 → Go E (mRef_write, h0, 0, 0) 151 [some (.ref m), none, some (.int (nI (k))), none] [] (h, none, d) 0 0 (RetR m h0 [1] (some (.int 0)) (.inl (some (.int (nI G.2))), (α.1, G, α.2.2))) := by
  intro n
  induction n with
  | zero =>
    intro k p h d hk hn hB hW hs hX
    have hro := hr.1
    have hdd := hr.1.2.1 t1
    have hd := hdd.1
    have hok := hv.1.1
    have hsB := smB_of hv.1
    have hc64 := hv.1.2.1.1
    have hx6 := hv.1.2.2.1.1
    have hq := pkC_le hok
    have hcN := pkC_2 hok
    have hb := hok.b
    have hkk := hok.k
    have hwh := hok.w
    have hE := hro.2.2.2.2
    refine go_iload_n dRef_write_151 rfl ?_
    refine go_aload_n dRef_write_152 rfl ?_
    refine go_getf dRef_write_153 qf_Ref_86 hW.cell rfl ?_
    refine go_top (y := nI α.1.2.2.2.2.2.2.2.2) (by exact hro.2.2.2.1) ?_
    refine go_icmp_ge (tgt := 214) dRef_write_156 (fun c1 => ?_) (fun c1 => ?_)
    · refine go_aload_n dRef_write_214 rfl ?_
      refine go_aload_n dRef_write_215 rfl ?_
      refine go_ldc dRef_write_216 qc_Ref_195 ?_
      refine go_virtX dRef_write_218 ok_mRef_open im_mRef_open se_mRef_open qm_Ref_167 hW.cell (r_open (show p.2 + 0 + 8 ≤ 2000 by omega) hW) (fun hx2 d2 q2 => ?_) (hnp := np_mRef_open)
      have hW2 := q2.1
      have s2 := hs.trans q2.2
      refine go_virtX dRef_write_221 ok_mRef_close im_mRef_close se_mRef_close qm_Ref_170 hW2.cell (r_close (show p.2 + 0 + 8 ≤ p.2 + 8 by omega) (show p.2 + 8 + 4 ≤ 2000 by omega) (hB.op) hW2) (fun hx3 d3 q3 => ?_) (hnp := np_mRef_close)
      have hW3 := q3.1
      have s3 := s2.trans q3.2
      refine go_aload_n dRef_write_224 rfl ?_
      refine go_getf dRef_write_225 qf_Ref_147 hW3.cell rfl ?_
      refine go_top (y := nI (p.2 + 12)) (by exact rfl) ?_
      refine go_iret dRef_write_228 rfl rfl ?_ (Nat.le_of_ble_eq_true rfl) (Nat.le_of_ble_eq_true rfl)
      obtain ⟨f9, hR9, hf9⟩ := id hW3
      rw [show G = _ from hX]
      exact retR_ok (β := (α.1, _, α.2.2)) rfl hR9 ⟨hr.1, ⟨rfl, hf9⟩, hr.2.2.1, hr.2.2.2⟩ h00 s3
    · exact absurd (nI_le (a := α.1.2.2.2.2.2.2.2.2) (b := k) (by omega) (by omega)) c1
  | succ n ih =>
    intro k p h d hk hn hB hW hs hX
    have hro := hr.1
    have hdd := hr.1.2.1 t1
    have hd := hdd.1
    have hok := hv.1.1
    have hsB := smB_of hv.1
    have hc64 := hv.1.2.1.1
    have hx6 := hv.1.2.2.1.1
    have hq := pkC_le hok
    have hcN := pkC_2 hok
    have hb := hok.b
    have hkk := hok.k
    have hwh := hok.w
    have hE := hro.2.2.2.2
    refine go_iload_n dRef_write_151 rfl ?_
    refine go_aload_n dRef_write_152 rfl ?_
    refine go_getf dRef_write_153 qf_Ref_86 hW.cell rfl ?_
    refine go_top (y := nI α.1.2.2.2.2.2.2.2.2) (by exact hro.2.2.2.1) ?_
    refine go_icmp_ge (tgt := 214) dRef_write_156 (fun c1 => ?_) (fun c1 => ?_)
    · exact absurd c1 (nI_ge (a := k) (b := α.1.2.2.2.2.2.2.2.2) (by omega) (by omega))
    · refine go_aload_n dRef_write_159 rfl ?_
      refine go_aload_n dRef_write_160 rfl ?_
      refine go_getf dRef_write_161 qf_Ref_19 hW.cell rfl ?_
      refine go_iload_n dRef_write_164 rfl ?_
      refine go_iald dRef_write_165 hW.a3 (by exact vp_in_nI (by omega) (by omega)) (congrArg _ (nI_clamp (by omega))) ?_
      refine go_top (y := α.1.2.2.2.2.2.1 k) (by exact hE.1 k (by omega)) ?_
      refine go_virtX dRef_write_166 ok_mRef_open im_mRef_open se_mRef_open qm_Ref_167 hW.cell (r_open (show p.2 + 0 + 8 ≤ 2000 by omega) hW) (fun hx2 d2 q2 => ?_) (hnp := np_mRef_open)
      have hW2 := q2.1
      have s2 := hs.trans q2.2
      refine go_istore_n dRef_write_169 ?_
      refine go_iconst (v := 0) dRef_write_170 (by decide) ?_
      refine go_istore_n dRef_write_171 ?_
      have hsz := hE.2.1 k (by omega)
      have e1 := wAs_2 (fun i => α.1.2.2.2.2.2.2.2.1 (40 * k + i)) (α.1.2.2.2.2.2.2.1 k) 0 (opW p (α.1.2.2.2.2.2.1 k))
      have e2 : (opW p (α.1.2.2.2.2.2.1 k)).2 = p.2 + 8 := rfl
      refine l_Ref_write_xi (fr := p.2) hr h00 t1 hv (k := k) (by omega) (α.1.2.2.2.2.2.2.1 k) 0 (opW p (α.1.2.2.2.2.2.1 k)) _ _ (by omega) (show p.2 + 8 + α.1.2.2.2.2.2.2.1 k ≤ 2000 by omega) (hB.op) hW2 s2 (fun hx3 dx3 hW3 hB3 hs3 => ?_)
      refine go_aload_n dRef_write_203 rfl ?_
      refine go_iload_n dRef_write_204 rfl ?_
      refine go_virtX dRef_write_205 ok_mRef_close im_mRef_close se_mRef_close qm_Ref_170 hW3.cell (r_close (p := (wAs (fun i => α.1.2.2.2.2.2.2.2.1 (40 * k + i)) 0 (α.1.2.2.2.2.2.2.1 k) (opW p (α.1.2.2.2.2.2.1 k)))) (a := p.2) (by rw [e1, e2]; omega) (by rw [e1, e2]; omega) hB3 hW3) (fun hx4 d4 q4 => ?_) (hnp := np_mRef_close)
      refine go_iinc dRef_write_208 rfl (congrArg (_ + ·) lit1) ?_
      refine go_goto (tgt := 151) dRef_write_211 ?_
      refine go_fg 1 (go_fg 3 ?_)
      exact go_at (ih (k + 1) (clW (wAs (fun i => α.1.2.2.2.2.2.2.2.1 (40 * k + i)) 0 (α.1.2.2.2.2.2.2.1 k) (opW p (α.1.2.2.2.2.2.1 k))) p.2) hx4 d4 (by omega) (by show (wAs (fun i => α.1.2.2.2.2.2.2.2.1 (40 * k + i)) 0 (α.1.2.2.2.2.2.2.1 k) (opW p (α.1.2.2.2.2.2.1 k))).2 + 4 + 52 * n + 12 ≤ 2000; rw [e1, e2]; omega) (hB3.cl (by rw [e1, e2]; omega)) q4.1 (hs3.trans q4.2) (by rw [hX, wXs])) rfl (by rw [nI_succ k]; rfl) rfl rfl
set_option maxHeartbeats 4000000 in
theorem l_Ref_write_b {E : pmEv} {h0 h : pmH} {d : Bool} {m : Nat} {g : Nat → Int32} {A : Nat → Nat → Int32} {α : aPF} {G : aRow} (hr : RR g A α) (h00 : g 0 = 0) (t1 : α.1.1 = true) (hv : IvA α) {p : aRow} (hn : p.2 + (pkC α.1.2).2 + 120 + 324 ≤ 2000) (hB : AllB p) (hW : RWr h m g A p) (hs : Sm h0 h m 17) (hG : G = enW α.1.2 p) : Go E (mRef_write, h0, 0, 0) 145 [some (.ref m), none, none, none] [] (h, none, d) 0 0 (RetR m h0 [1] (some (.int 0)) (.inl (some (.int (nI G.2))), (α.1, G, α.2.2))) := by
  have hro := hr.1
  have hdd := hr.1.2.1 t1
  have hd := hdd.1
  have hok := hv.1.1
  have hsB := smB_of hv.1
  have hc64 := hv.1.2.1.1
  have hx6 := hv.1.2.2.1.1
  have hq := pkC_le hok
  have hcN := pkC_2 hok
  have hb := hok.b
  have hkk := hok.k
  have hwh := hok.w
  have b1 := wRs_2 (pkC α.1.2) 10 0 p
  refine go_aload_n dRef_write_145 rfl ?_
  refine go_virtX dRef_write_146 ok_mRef_writeRows im_mRef_writeRows se_mRef_writeRows qm_Ref_192 hW.cell (r_writeRows (π := α.1.2) hd hdd.2.1 hok hsB (by rw [← hcN]; omega) hB hW) (fun hx1 d1 q1 => ?_) (hnp := np_mRef_writeRows)
  obtain ⟨hW1, hB1, tt1⟩ := q1
  have s1 := hs.trans tt1
  refine go_iconst (v := 0) dRef_write_149 (by decide) ?_
  refine go_istore_n dRef_write_150 ?_
  exact l_Ref_write_x hr h00 t1 hv α.1.2.2.2.2.2.2.2.2 0 (wRs (pkC α.1.2) 10 0 p) _ _ (by omega) (by omega) hB1 hW1 s1 hG
set_option maxHeartbeats 4000000 in
theorem l_Ref_write_a {E : pmEv} {h0 h : pmH} {d : Bool} {m : Nat} {g : Nat → Int32} {A : Nat → Nat → Int32} {α : aPF} {G : aRow} (hr : RR g A α) (h00 : g 0 = 0) (t1 : α.1.1 = true) (hv : IvA α) {p : aRow} (hp8 : p.2 = 8) (hB : AllB p) (hW : RWr h m g A p) (hs : Sm h0 h m 17) (hG : G = enW α.1.2 (if α.1.2.1.2.2.2 = 3 then alW α.1.2.2.2.1 (plW α.1.2.2.2.1 (tgW α.1.2.2.2.2.1 (hdW α.1.2.1 p))) else (tgW α.1.2.2.2.2.1 (hdW α.1.2.1 p)))) : Go E (mRef_write, h0, 0, 0) 67 [some (.ref m), some (.int (nI 8)), none, none] [] (h, none, d) 0 0 (RetR m h0 [1] (some (.int 0)) (.inl (some (.int (nI G.2))), (α.1, G, α.2.2))) := by
  have hro := hr.1
  have hdd := hr.1.2.1 t1
  have hd := hdd.1
  have hok := hv.1.1
  have hsB := smB_of hv.1
  have hc64 := hv.1.2.1.1
  have hx6 := hv.1.2.2.1.1
  have hq := pkC_le hok
  have hcN := pkC_2 hok
  have hb := hok.b
  have hkk := hok.k
  have hwh := hok.w
  have b0 : (hdW α.1.2.1 p).2 = p.2 + 25 := rfl
  have b3 := tgW_2 α.1.2.2.2.2.1 (hdW α.1.2.1 p)
  have b4 := plW_2 α.1.2.2.2.1 (tgW α.1.2.2.2.2.1 (hdW α.1.2.1 p))
  have b5 := alW_2 α.1.2.2.2.1 (plW α.1.2.2.2.1 (tgW α.1.2.2.2.2.1 (hdW α.1.2.1 p)))
  refine go_aload_n dRef_write_67 rfl ?_
  refine go_ldc dRef_write_68 qc_Ref_185 ?_
  refine go_virtX dRef_write_70 ok_mRef_open im_mRef_open se_mRef_open qm_Ref_167 hW.cell (r_open (show p.2 + 0 + 8 ≤ 2000 by omega) hW) (fun hx1 d1 q1 => ?_) (hnp := np_mRef_open)
  have hW1 := q1.1
  have s1 := hs.trans q1.2
  refine go_istore_n dRef_write_73 ?_
  refine go_aload_n dRef_write_74 rfl ?_
  refine go_aload_n dRef_write_75 rfl ?_
  refine go_getf dRef_write_76 qf_Ref_71 hW1.cell rfl ?_
  refine go_top (y := nI α.1.2.1.1) (by exact hd.1) ?_
  refine go_virtX dRef_write_79 ok_mRef_tellNumber im_mRef_tellNumber se_mRef_tellNumber qm_Ref_164 hW1.cell (r_tellNumber (show p.2 + 8 + 4 ≤ 2000 by omega) hW1) (fun hx2 d2 q2 => ?_) (hnp := np_mRef_tellNumber)
  have hW2 := q2.1
  have s2 := s1.trans q2.2
  refine go_aload_n dRef_write_82 rfl ?_
  refine go_aload_n dRef_write_83 rfl ?_
  refine go_getf dRef_write_84 qf_Ref_74 hW2.cell rfl ?_
  refine go_top (y := nI α.1.2.1.2.1) (by exact hd.2.1) ?_
  refine go_virtX dRef_write_87 ok_mRef_tellNumber im_mRef_tellNumber se_mRef_tellNumber qm_Ref_164 hW2.cell (r_tellNumber (show p.2 + 12 + 4 ≤ 2000 by omega) hW2) (fun hx3 d3 q3 => ?_) (hnp := np_mRef_tellNumber)
  have hW3 := q3.1
  have s3 := s2.trans q3.2
  refine go_aload_n dRef_write_90 rfl ?_
  refine go_aload_n dRef_write_91 rfl ?_
  refine go_getf dRef_write_92 qf_Ref_77 hW3.cell rfl ?_
  refine go_top (y := nI α.1.2.1.2.2.1) (by exact hd.2.2.1) ?_
  refine go_virtX dRef_write_95 ok_mRef_tell im_mRef_tell se_mRef_tell qm_Ref_150 hW3.cell (r_tell (show p.2 + 16 < 2000 by omega) hW3) (fun hx4 d4 q4 => ?_) (hnp := np_mRef_tell)
  have hW4 := q4.1
  have s4 := s3.trans q4.2
  refine go_aload_n dRef_write_98 rfl ?_
  refine go_aload_n dRef_write_99 rfl ?_
  refine go_getf dRef_write_100 qf_Ref_80 hW4.cell rfl ?_
  refine go_top (y := nI α.1.2.1.2.2.2) (by exact hd.2.2.2) ?_
  refine go_virtX dRef_write_103 ok_mRef_tell im_mRef_tell se_mRef_tell qm_Ref_150 hW4.cell (r_tell (show p.2 + 17 < 2000 by omega) hW4) (fun hx5 d5 q5 => ?_) (hnp := np_mRef_tell)
  have hW5 := q5.1
  have s5 := s4.trans q5.2
  refine go_iconst (v := 0) dRef_write_106 (by decide) ?_
  refine go_istore_n dRef_write_107 ?_
  refine l_Ref_write2 (fr := p.2) 3 0 (wA (wA (wN (wN (opW p 1229472850) (nI α.1.2.1.1)) (nI α.1.2.1.2.1)) (nI α.1.2.1.2.2.1)) (nI α.1.2.1.2.2.2)) _ _ (by omega) (show p.2 + 18 + 3 ≤ 2000 by omega) (((((hB.op).num).num).add (byt_n (by omega))).add (byt_n (by omega))) hW5 s5 (fun hx20 dx20 hW20 hB20 hs20 => ?_)
  refine go_aload_n dRef_write_124 rfl ?_
  refine go_iload_n dRef_write_125 rfl ?_
  refine go_virtX dRef_write_126 ok_mRef_close im_mRef_close se_mRef_close qm_Ref_170 hW20.cell (r_close (show p.2 + 0 + 8 ≤ p.2 + 21 by omega) (show p.2 + 21 + 4 ≤ 2000 by omega) hB20 hW20) (fun hx6 d6 q6 => ?_) (hnp := np_mRef_close)
  have hW6 := q6.1
  have s6 := hs20.trans q6.2
  refine go_aload_n dRef_write_129 rfl ?_
  refine go_virtX dRef_write_130 ok_mRef_writeTags im_mRef_writeTags se_mRef_writeTags qm_Ref_186 hW6.cell (r_writeTags (p := (hdW α.1.2.1 p)) (τ := α.1.2.2.2.2.1) hdd.2.2 hv.1.2.2.2.2 (by omega) (hB20.cl (show p.2 + 0 + 8 ≤ p.2 + 21 by omega)) hW6) (fun hx7 d7 q7 => ?_) (hnp := np_mRef_writeTags)
  obtain ⟨hW7, hB7, tt7⟩ := q7
  have s7 := s6.trans tt7
  refine go_aload_n dRef_write_133 rfl ?_
  refine go_getf dRef_write_134 qf_Ref_80 hW7.cell rfl ?_
  refine go_top (y := nI α.1.2.1.2.2.2) (by exact hd.2.2.2) ?_
  refine go_iconst (v := 3) dRef_write_137 (by decide) ?_
  refine go_icmp_ne (tgt := 145) dRef_write_138 (fun c8 => ?_) (fun c8 => ?_)
  · refine go_fg 1 (go_fg 2 ?_)
    exact l_Ref_write_b hr h00 t1 hv (p := (tgW α.1.2.2.2.2.1 (hdW α.1.2.1 p))) (by omega) hB7 hW7 s7 (by rw [hG, if_neg (fun q => c8 (by rw [q]; rfl))])
  · refine go_aload_n dRef_write_141 rfl ?_
    refine go_virtX dRef_write_142 ok_mRef_writePalette im_mRef_writePalette se_mRef_writePalette qm_Ref_189 hW7.cell (r_writePalette (p := (tgW α.1.2.2.2.2.1 (hdW α.1.2.1 p))) (c := α.1.2.2.2.1) hro.2.2.1.1 hc64 hro.2.2.1.2 hv.1.2.1.2.2 (by omega) hB7 hW7) (fun hx9 d9 q9 => ?_) (hnp := np_mRef_writePalette)
    obtain ⟨hW9, hB9, tt9⟩ := q9
    have s9 := s7.trans tt9
    have hq3 := hq.2 ((nI_inj (b := 3) (by omega) (by omega)).mp c8)
    refine go_fg 1 (go_fg 2 ?_)
    exact l_Ref_write_b hr h00 t1 hv (p := alW α.1.2.2.2.1 (plW α.1.2.2.2.1 (tgW α.1.2.2.2.2.1 (hdW α.1.2.1 p)))) (by omega) hB9 hW9 s9 (by rw [hG, if_pos ((nI_inj (b := 3) (by omega) (by omega)).mp c8)])
set_option maxHeartbeats 4000000 in
theorem r_write {E : pmEv} {h : pmH} {m : Nat} {g : Nat → Int32} {A : Nat → Nat → Int32} {α : aPF} (hR : RfA h m g A) (hr : RR g A α) (hv : IvA α) : Call E mRef_write [.ref m] h none 0 0 (RetR m h [1] (some (.int 0)) (wrF α)) := by
  have hs : Sm h h m 17 := Sm.refl _ _ _
  have ho := hr.1
  have ht : g 1 = 0 ↔ ¬ α.1.1 = true := by rw [ho.1]; exact bI_0
  have hok := hv.1.1
  have hb := hok.b
  have hkk := hok.k
  have hwh := hok.w
  have hch := chN_le α.1.2.1.2.2.2
  have hc64 := hv.1.2.1.1
  have hx6 := hv.1.2.2.1.1
  refine call_of (L := [some (.ref m), none, none, none]) ok_mRef_write (Nat.le_of_ble_eq_true rfl) ?_
  refine go_aload_n dRef_write_0 rfl ?_
  refine go_aload_n dRef_write_1 rfl ?_
  refine go_getf dRef_write_2 qf_Ref_67 hR.1 rfl ?_
  refine go_if_eq (tgt := 23) dRef_write_5 (fun c1 => ?_) (fun c1 => ?_)
  · refine go_iconst (v := 1) dRef_write_23 (by decide) ?_
    refine go_goto (tgt := 28) dRef_write_24 ?_
    refine go_putf dRef_write_28 qf_Ref_59 pw_8_0 hR.1 rfl rfl ?_
    refine go_aload_n dRef_write_31 rfl ?_
    refine go_getf dRef_write_32 qf_Ref_59 (pmU_s _ _ _) rfl ?_
    refine go_if_le (tgt := 40) dRef_write_35 (fun cc => absurd cc (by decide)) (fun _ => ?_)
    refine go_nm (fun hnk1 enk1 => ?_)
    have gsk1 : Sm h hnk1 m 17 := by rw [enk1]; exact (Sm.put' (Sm.refl _ _ _) _ (by omega) (by omega))
    have hRk1 : RfA hnk1 m (upd g 0 1) (A) := ⟨(congrFun enk1 m).trans (pmU_s _ _ _), (congrFun enk1 (m + 1)).trans ((pmU_n _ _ (by omega)).trans hR.2.1), (congrFun enk1 (m + 2)).trans ((pmU_n _ _ (by omega)).trans hR.2.2.1), (congrFun enk1 (m + 3)).trans ((pmU_n _ _ (by omega)).trans hR.2.2.2.1), (congrFun enk1 (m + 4)).trans ((pmU_n _ _ (by omega)).trans hR.2.2.2.2.1), (congrFun enk1 (m + 5)).trans ((pmU_n _ _ (by omega)).trans hR.2.2.2.2.2.1), (congrFun enk1 (m + 6)).trans ((pmU_n _ _ (by omega)).trans hR.2.2.2.2.2.2.1), (congrFun enk1 (m + 7)).trans ((pmU_n _ _ (by omega)).trans hR.2.2.2.2.2.2.2.1), (congrFun enk1 (m + 8)).trans ((pmU_n _ _ (by omega)).trans hR.2.2.2.2.2.2.2.2.1), (congrFun enk1 (m + 9)).trans ((pmU_n _ _ (by omega)).trans hR.2.2.2.2.2.2.2.2.2.1), (congrFun enk1 (m + 10)).trans ((pmU_n _ _ (by omega)).trans hR.2.2.2.2.2.2.2.2.2.2.1), (congrFun enk1 (m + 11)).trans ((pmU_n _ _ (by omega)).trans hR.2.2.2.2.2.2.2.2.2.2.2.1), (congrFun enk1 (m + 12)).trans ((pmU_n _ _ (by omega)).trans hR.2.2.2.2.2.2.2.2.2.2.2.2.1), (congrFun enk1 (m + 13)).trans ((pmU_n _ _ (by omega)).trans hR.2.2.2.2.2.2.2.2.2.2.2.2.2.1), (congrFun enk1 (m + 14)).trans ((pmU_n _ _ (by omega)).trans hR.2.2.2.2.2.2.2.2.2.2.2.2.2.2.1), (congrFun enk1 (m + 15)).trans ((pmU_n _ _ (by omega)).trans hR.2.2.2.2.2.2.2.2.2.2.2.2.2.2.2.1), (congrFun enk1 (m + 16)).trans ((pmU_n _ _ (by omega)).trans hR.2.2.2.2.2.2.2.2.2.2.2.2.2.2.2.2)⟩
    have sk1 := hs.trans gsk1
    refine go_iconst (v := 0) dRef_write_38 (by decide) ?_
    refine go_iret dRef_write_39 rfl rfl ?_ (Nat.le_of_ble_eq_true rfl) (Nat.le_of_ble_eq_true rfl)
    exact retR_no (by rw [wrF, if_pos (ht.mp c1)]) hRk1 hr rfl sk1
  · have t1 : α.1.1 = true := Decidable.not_not.mp fun q => c1 (ht.mpr q)
    have hd := (ho.2.1 t1).1
    refine go_aload_n dRef_write_8 rfl ?_
    refine go_getf dRef_write_9 qf_Ref_80 hR.1 rfl ?_
    refine go_top (y := nI α.1.2.1.2.2.2) (by exact hd.2.2.2) ?_
    refine go_iconst (v := 3) dRef_write_12 (by decide) ?_
    refine go_icmp_ne (tgt := 27) dRef_write_13 (fun c2 => ?_) (fun c2 => ?_)
    · refine go_iconst (v := 0) dRef_write_27 (by decide) ?_
      refine go_putf dRef_write_28 qf_Ref_59 pw_8_0 hR.1 rfl rfl ?_
      refine go_aload_n dRef_write_31 rfl ?_
      refine go_getf dRef_write_32 qf_Ref_59 (pmU_s _ _ _) rfl ?_
      refine go_if_le (tgt := 40) dRef_write_35 (fun _ => ?_) (fun cc => absurd (by decide) cc)
      refine go_aload_n dRef_write_40 rfl ?_
      refine go_iconst (v := 0) dRef_write_41 (by decide) ?_
      refine go_putf dRef_write_42 qf_Ref_147 pw_8_30 (pmU_s _ _ _) rfl rfl ?_
      refine go_iconst (v := 0) dRef_write_45 (by decide) ?_
      refine go_istore_n dRef_write_46 ?_
      refine go_nm (fun hnk2 enk2 => ?_)
      have gsk2 : Sm h hnk2 m 17 := by rw [enk2]; exact (Sm.put' (Sm.put' (Sm.refl _ _ _) _ (by omega) (by omega)) _ (by omega) (by omega))
      have hRk2 : RfA hnk2 m (upd (upd g 0 0) 30 0) (A) := ⟨(congrFun enk2 m).trans (pmU_s _ _ _), (congrFun enk2 (m + 1)).trans ((pmU_n _ _ (by omega)).trans ((pmU_n _ _ (by omega)).trans hR.2.1)), (congrFun enk2 (m + 2)).trans ((pmU_n _ _ (by omega)).trans ((pmU_n _ _ (by omega)).trans hR.2.2.1)), (congrFun enk2 (m + 3)).trans ((pmU_n _ _ (by omega)).trans ((pmU_n _ _ (by omega)).trans hR.2.2.2.1)), (congrFun enk2 (m + 4)).trans ((pmU_n _ _ (by omega)).trans ((pmU_n _ _ (by omega)).trans hR.2.2.2.2.1)), (congrFun enk2 (m + 5)).trans ((pmU_n _ _ (by omega)).trans ((pmU_n _ _ (by omega)).trans hR.2.2.2.2.2.1)), (congrFun enk2 (m + 6)).trans ((pmU_n _ _ (by omega)).trans ((pmU_n _ _ (by omega)).trans hR.2.2.2.2.2.2.1)), (congrFun enk2 (m + 7)).trans ((pmU_n _ _ (by omega)).trans ((pmU_n _ _ (by omega)).trans hR.2.2.2.2.2.2.2.1)), (congrFun enk2 (m + 8)).trans ((pmU_n _ _ (by omega)).trans ((pmU_n _ _ (by omega)).trans hR.2.2.2.2.2.2.2.2.1)), (congrFun enk2 (m + 9)).trans ((pmU_n _ _ (by omega)).trans ((pmU_n _ _ (by omega)).trans hR.2.2.2.2.2.2.2.2.2.1)), (congrFun enk2 (m + 10)).trans ((pmU_n _ _ (by omega)).trans ((pmU_n _ _ (by omega)).trans hR.2.2.2.2.2.2.2.2.2.2.1)), (congrFun enk2 (m + 11)).trans ((pmU_n _ _ (by omega)).trans ((pmU_n _ _ (by omega)).trans hR.2.2.2.2.2.2.2.2.2.2.2.1)), (congrFun enk2 (m + 12)).trans ((pmU_n _ _ (by omega)).trans ((pmU_n _ _ (by omega)).trans hR.2.2.2.2.2.2.2.2.2.2.2.2.1)), (congrFun enk2 (m + 13)).trans ((pmU_n _ _ (by omega)).trans ((pmU_n _ _ (by omega)).trans hR.2.2.2.2.2.2.2.2.2.2.2.2.2.1)), (congrFun enk2 (m + 14)).trans ((pmU_n _ _ (by omega)).trans ((pmU_n _ _ (by omega)).trans hR.2.2.2.2.2.2.2.2.2.2.2.2.2.2.1)), (congrFun enk2 (m + 15)).trans ((pmU_n _ _ (by omega)).trans ((pmU_n _ _ (by omega)).trans hR.2.2.2.2.2.2.2.2.2.2.2.2.2.2.2.1)), (congrFun enk2 (m + 16)).trans ((pmU_n _ _ (by omega)).trans ((pmU_n _ _ (by omega)).trans hR.2.2.2.2.2.2.2.2.2.2.2.2.2.2.2.2))⟩
      have sk2 := hs.trans gsk2
      have hW0 : RWr hnk2 m (upd g 0 0) A (α.2.1.1, 0) := ⟨A 12, hRk2, fun i hi => absurd hi (Nat.not_lt_zero _)⟩
      refine l_Ref_write1 (g := upd g 0 0) (A := A) 8 0 (α.2.1.1, 0) _ _ (by omega) (show 0 + 8 ≤ 2000 by decide) (fun j hj => absurd hj (Nat.not_lt_zero _)) hW0 sk2 (fun hx2 dx2 hW2 hB2 hs2 => ?_)
      exact (l_Ref_write_a (g := upd g 0 0) (α := α) (G := wrAll α.1.2 α.2.1) hr rfl t1 hv rfl hB2 hW2 hs2 rfl).mono fun o S q => by rw [wrF, if_neg (fun q => q t1), if_neg (fun q => c2 q.1)]; exact q
    · refine go_aload_n dRef_write_16 rfl ?_
      refine go_getf dRef_write_17 qf_Ref_83 hR.1 rfl ?_
      refine go_top (y := nI α.1.2.2.2.1.2) (by exact ho.2.2.1.1) ?_
      refine go_if_ne (tgt := 27) dRef_write_20 (fun c3 => ?_) (fun c3 => ?_)
      · refine go_iconst (v := 0) dRef_write_27 (by decide) ?_
        refine go_putf dRef_write_28 qf_Ref_59 pw_8_0 hR.1 rfl rfl ?_
        refine go_aload_n dRef_write_31 rfl ?_
        refine go_getf dRef_write_32 qf_Ref_59 (pmU_s _ _ _) rfl ?_
        refine go_if_le (tgt := 40) dRef_write_35 (fun _ => ?_) (fun cc => absurd (by decide) cc)
        refine go_aload_n dRef_write_40 rfl ?_
        refine go_iconst (v := 0) dRef_write_41 (by decide) ?_
        refine go_putf dRef_write_42 qf_Ref_147 pw_8_30 (pmU_s _ _ _) rfl rfl ?_
        refine go_iconst (v := 0) dRef_write_45 (by decide) ?_
        refine go_istore_n dRef_write_46 ?_
        refine go_nm (fun hnk3 enk3 => ?_)
        have gsk3 : Sm h hnk3 m 17 := by rw [enk3]; exact (Sm.put' (Sm.put' (Sm.refl _ _ _) _ (by omega) (by omega)) _ (by omega) (by omega))
        have hRk3 : RfA hnk3 m (upd (upd g 0 0) 30 0) (A) := ⟨(congrFun enk3 m).trans (pmU_s _ _ _), (congrFun enk3 (m + 1)).trans ((pmU_n _ _ (by omega)).trans ((pmU_n _ _ (by omega)).trans hR.2.1)), (congrFun enk3 (m + 2)).trans ((pmU_n _ _ (by omega)).trans ((pmU_n _ _ (by omega)).trans hR.2.2.1)), (congrFun enk3 (m + 3)).trans ((pmU_n _ _ (by omega)).trans ((pmU_n _ _ (by omega)).trans hR.2.2.2.1)), (congrFun enk3 (m + 4)).trans ((pmU_n _ _ (by omega)).trans ((pmU_n _ _ (by omega)).trans hR.2.2.2.2.1)), (congrFun enk3 (m + 5)).trans ((pmU_n _ _ (by omega)).trans ((pmU_n _ _ (by omega)).trans hR.2.2.2.2.2.1)), (congrFun enk3 (m + 6)).trans ((pmU_n _ _ (by omega)).trans ((pmU_n _ _ (by omega)).trans hR.2.2.2.2.2.2.1)), (congrFun enk3 (m + 7)).trans ((pmU_n _ _ (by omega)).trans ((pmU_n _ _ (by omega)).trans hR.2.2.2.2.2.2.2.1)), (congrFun enk3 (m + 8)).trans ((pmU_n _ _ (by omega)).trans ((pmU_n _ _ (by omega)).trans hR.2.2.2.2.2.2.2.2.1)), (congrFun enk3 (m + 9)).trans ((pmU_n _ _ (by omega)).trans ((pmU_n _ _ (by omega)).trans hR.2.2.2.2.2.2.2.2.2.1)), (congrFun enk3 (m + 10)).trans ((pmU_n _ _ (by omega)).trans ((pmU_n _ _ (by omega)).trans hR.2.2.2.2.2.2.2.2.2.2.1)), (congrFun enk3 (m + 11)).trans ((pmU_n _ _ (by omega)).trans ((pmU_n _ _ (by omega)).trans hR.2.2.2.2.2.2.2.2.2.2.2.1)), (congrFun enk3 (m + 12)).trans ((pmU_n _ _ (by omega)).trans ((pmU_n _ _ (by omega)).trans hR.2.2.2.2.2.2.2.2.2.2.2.2.1)), (congrFun enk3 (m + 13)).trans ((pmU_n _ _ (by omega)).trans ((pmU_n _ _ (by omega)).trans hR.2.2.2.2.2.2.2.2.2.2.2.2.2.1)), (congrFun enk3 (m + 14)).trans ((pmU_n _ _ (by omega)).trans ((pmU_n _ _ (by omega)).trans hR.2.2.2.2.2.2.2.2.2.2.2.2.2.2.1)), (congrFun enk3 (m + 15)).trans ((pmU_n _ _ (by omega)).trans ((pmU_n _ _ (by omega)).trans hR.2.2.2.2.2.2.2.2.2.2.2.2.2.2.2.1)), (congrFun enk3 (m + 16)).trans ((pmU_n _ _ (by omega)).trans ((pmU_n _ _ (by omega)).trans hR.2.2.2.2.2.2.2.2.2.2.2.2.2.2.2.2))⟩
        have sk3 := hs.trans gsk3
        have hW0 : RWr hnk3 m (upd g 0 0) A (α.2.1.1, 0) := ⟨A 12, hRk3, fun i hi => absurd hi (Nat.not_lt_zero _)⟩
        refine l_Ref_write1 (g := upd g 0 0) (A := A) 8 0 (α.2.1.1, 0) _ _ (by omega) (show 0 + 8 ≤ 2000 by decide) (fun j hj => absurd hj (Nat.not_lt_zero _)) hW0 sk3 (fun hx2 dx2 hW2 hB2 hs2 => ?_)
        exact (l_Ref_write_a (g := upd g 0 0) (α := α) (G := wrAll α.1.2 α.2.1) hr rfl t1 hv rfl hB2 hW2 hs2 rfl).mono fun o S q => by rw [wrF, if_neg (fun q => q t1), if_neg (fun q => c3 (by rw [q.2]; rfl))]; exact q
      · refine go_iconst (v := 1) dRef_write_23 (by decide) ?_
        refine go_goto (tgt := 28) dRef_write_24 ?_
        refine go_putf dRef_write_28 qf_Ref_59 pw_8_0 hR.1 rfl rfl ?_
        refine go_aload_n dRef_write_31 rfl ?_
        refine go_getf dRef_write_32 qf_Ref_59 (pmU_s _ _ _) rfl ?_
        refine go_if_le (tgt := 40) dRef_write_35 (fun cc => absurd cc (by decide)) (fun _ => ?_)
        refine go_nm (fun hnk4 enk4 => ?_)
        have gsk4 : Sm h hnk4 m 17 := by rw [enk4]; exact (Sm.put' (Sm.refl _ _ _) _ (by omega) (by omega))
        have hRk4 : RfA hnk4 m (upd g 0 1) (A) := ⟨(congrFun enk4 m).trans (pmU_s _ _ _), (congrFun enk4 (m + 1)).trans ((pmU_n _ _ (by omega)).trans hR.2.1), (congrFun enk4 (m + 2)).trans ((pmU_n _ _ (by omega)).trans hR.2.2.1), (congrFun enk4 (m + 3)).trans ((pmU_n _ _ (by omega)).trans hR.2.2.2.1), (congrFun enk4 (m + 4)).trans ((pmU_n _ _ (by omega)).trans hR.2.2.2.2.1), (congrFun enk4 (m + 5)).trans ((pmU_n _ _ (by omega)).trans hR.2.2.2.2.2.1), (congrFun enk4 (m + 6)).trans ((pmU_n _ _ (by omega)).trans hR.2.2.2.2.2.2.1), (congrFun enk4 (m + 7)).trans ((pmU_n _ _ (by omega)).trans hR.2.2.2.2.2.2.2.1), (congrFun enk4 (m + 8)).trans ((pmU_n _ _ (by omega)).trans hR.2.2.2.2.2.2.2.2.1), (congrFun enk4 (m + 9)).trans ((pmU_n _ _ (by omega)).trans hR.2.2.2.2.2.2.2.2.2.1), (congrFun enk4 (m + 10)).trans ((pmU_n _ _ (by omega)).trans hR.2.2.2.2.2.2.2.2.2.2.1), (congrFun enk4 (m + 11)).trans ((pmU_n _ _ (by omega)).trans hR.2.2.2.2.2.2.2.2.2.2.2.1), (congrFun enk4 (m + 12)).trans ((pmU_n _ _ (by omega)).trans hR.2.2.2.2.2.2.2.2.2.2.2.2.1), (congrFun enk4 (m + 13)).trans ((pmU_n _ _ (by omega)).trans hR.2.2.2.2.2.2.2.2.2.2.2.2.2.1), (congrFun enk4 (m + 14)).trans ((pmU_n _ _ (by omega)).trans hR.2.2.2.2.2.2.2.2.2.2.2.2.2.2.1), (congrFun enk4 (m + 15)).trans ((pmU_n _ _ (by omega)).trans hR.2.2.2.2.2.2.2.2.2.2.2.2.2.2.2.1), (congrFun enk4 (m + 16)).trans ((pmU_n _ _ (by omega)).trans hR.2.2.2.2.2.2.2.2.2.2.2.2.2.2.2.2)⟩
        have sk4 := hs.trans gsk4
        refine go_iconst (v := 0) dRef_write_38 (by decide) ?_
        refine go_iret dRef_write_39 rfl rfl ?_ (Nat.le_of_ble_eq_true rfl) (Nat.le_of_ble_eq_true rfl)
        exact retR_no (by rw [wrF, if_neg (fun q => q t1), if_pos ⟨c2, (nI_inj (b := 0) (by omega) (by omega)).mp c3⟩]) hRk4 hr rfl sk4
