/-! ===== the reference: palettes, alphas, rows, chunks of others when it reads (by wip/whole/gen_rRd2.py) ===== -/
theorem plT_2 (f : Nat → Int32) (d : Nat) : ∀ (n k : Nat) (c : aRow), (plT f d n k c).2 = c.2 + n := by
  intro n
  induction n with
  | zero => intro k c; rfl
  | succ n ih => intro k c; rw [plT, ih]; show c.2 + 1 + n = _; omega
theorem plT_b {p : aRow} (hB : AllB p) (d : Nat) : ∀ (n k : Nat) (c : aRow), d + 3 * (k + n) ≤ p.2 → (∀ j, j < 4 * c.2 → byt (c.1 j)) → ∀ j, j < 4 * (plT p.1 d n k c).2 → byt ((plT p.1 d n k c).1 j) := by
  intro n
  induction n with
  | zero => intro k c _ h; exact h
  | succ n ih =>
    intro k c hd h
    rw [plT]
    refine ih (k + 1) _ (by omega) fun j hj => ?_
    have hj' : j < 4 * (c.2 + 1) := hj
    show byt (upd (upd (upd (upd c.1 (4 * c.2) _) (4 * c.2 + 1) _) (4 * c.2 + 2) _) (4 * c.2 + 3) _ j)
    by_cases e3 : j = 4 * c.2 + 3
    · subst e3; rw [pk_us]; exact byt_n (n := 255) (by omega)
    · rw [pk_un e3]
      by_cases e2 : j = 4 * c.2 + 2
      · subst e2; rw [pk_us]; exact hB _ (by omega)
      · rw [pk_un e2]
        by_cases e1 : j = 4 * c.2 + 1
        · subst e1; rw [pk_us]; exact hB _ (by omega)
        · rw [pk_un e1]
          by_cases e0 : j = 4 * c.2
          · subst e0; rw [pk_us]; exact hB _ (by omega)
          · rw [pk_un e0]; exact h j (by omega)
theorem alT_b {p : aRow} (hB : AllB p) (d : Nat) : ∀ (n k : Nat) (c : aRow), d + (k + n) ≤ p.2 → (∀ j, j < 4 * c.2 → byt (c.1 j)) → ∀ j, j < 4 * (alT p.1 d n k c).2 → byt ((alT p.1 d n k c).1 j) := by
  intro n
  induction n with
  | zero => intro k c _ h; exact h
  | succ n ih =>
    intro k c hd h
    rw [alT]
    refine ih (k + 1) _ (by omega) fun j hj => ?_
    show byt (upd c.1 (4 * k + 3) _ j)
    by_cases e : j = 4 * k + 3
    · subst e; rw [pk_us]; exact hB _ (by omega)
    · rw [pk_un e]; exact h j hj
theorem RG.palN {g : Nat → Int32} {A : Nat → Nat → Int32} {S : aRs} {p : aRow} {a b l : Nat} {f : Nat → Int32} (hG : RG g A S a) (h8 : ¬ S.2.2 8 = 0) (hc0 : S.1.2.2.2.1.2 = 0) (h3 : ¬ nI S.1.2.1.2.2.2 = 3) (hab : a ≤ b) : RG (upd (upd g 37 1) 20 (nI 0)) (uA A 7 f) (plS p a l S) b := by
  obtain ⟨q1, q2, q3, q4⟩ := hG.hd h8
  unfold plS
  rw [if_neg h3]
  exact ⟨hG.1, ⟨hG.2.1.1, rfl, hG.2.1.2.2⟩, hG.2.2.1, hG.2.2.2.1, fun q => absurd q h8, fun _ => ⟨q1, ⟨q2.1, q2.2.1, ⟨congrArg nI hc0.symm, fun j hj => absurd hj (by show ¬ j < 4 * S.1.2.2.2.1.2; omega)⟩, q2.2.2.2⟩, q3, q4⟩, ⟨fun _ q => absurd q (by show ¬ (1 : Int32) = 0; decide), (hG.2.2.2.2.2.2.1.le hab).2⟩, hG.2.2.2.2.2.2.2⟩
theorem RG.pal {g : Nat → Int32} {A : Nat → Nat → Int32} {S : aRs} {p : aRow} {a b l : Nat} {f : Nat → Int32} (hG : RG g A S a) (h8 : ¬ S.2.2 8 = 0) (hc0 : S.1.2.2.2.1.2 = 0) (h3 : nI S.1.2.1.2.2.2 = 3) (hok : plOk l S.1.2.1.2.2.1) (hB : AllB p) (hf : a + 8 + l ≤ p.2) (hA : Ag (4 * (plT p.1 (a + 8) (l / 3) 0 S.1.2.2.2.1).2) f (plT p.1 (a + 8) (l / 3) 0 S.1.2.2.2.1).1) (hab : a ≤ b) : RG (upd (upd g 37 1) 20 (nI (l / 3))) (uA A 7 f) (plS p a l S) b := by
  obtain ⟨q1, q2, q3, q4⟩ := hG.hd h8
  have e2 := plT_2 p.1 (a + 8) (l / 3) 0 S.1.2.2.2.1
  rw [hc0, Nat.zero_add] at e2
  unfold plS
  rw [if_pos h3]
  refine ⟨hG.1, ⟨hG.2.1.1, rfl, hG.2.1.2.2⟩, hG.2.2.1, hG.2.2.2.1, fun q => absurd q h8, fun _ => ⟨q1, ⟨q2.1, q2.2.1, ⟨congrArg nI e2.symm, hA⟩, q2.2.2.2⟩, ⟨q3.1, ⟨?_, ?_, ?_⟩, q3.2.2⟩, q4⟩, ⟨fun _ q => absurd q (by show ¬ (1 : Int32) = 0; decide), (hG.2.2.2.2.2.2.1.le hab).2⟩, hG.2.2.2.2.2.2.2⟩
  · show (plT p.1 (a + 8) (l / 3) 0 S.1.2.2.2.1).2 ≤ 64
    rw [e2]; exact Nat.le_trans hok.2.2 (Nat.min_le_left _ _)
  · intro _
    show (plT p.1 (a + 8) (l / 3) 0 S.1.2.2.2.1).2 ≤ _
    rw [e2]; exact hok.2.2
  · exact plT_b hB (a + 8) (l / 3) 0 _ (by omega) (fun j hj => absurd hj (by omega))
theorem RG.alp {g : Nat → Int32} {A : Nat → Nat → Int32} {S : aRs} {p : aRow} {a b l : Nat} {f : Nat → Int32} (hG : RG g A S a) (h8 : ¬ S.2.2 8 = 0) (hok : alOk l S.1.2) (hB : AllB p) (hf : a + 8 + l ≤ p.2) (hA : Ag (4 * (alT p.1 (a + 8) l 0 S.1.2.2.2.1).2) f (alT p.1 (a + 8) l 0 S.1.2.2.2.1).1) (hab : a ≤ b) : RG (upd g 38 1) (uA A 7 f) (alS p a l S) b := by
  obtain ⟨q1, q2, q3, q4⟩ := hG.hd h8
  have e2 := alT_2 p.1 (a + 8) l 0 S.1.2.2.2.1
  refine ⟨hG.1, ⟨hG.2.1.1, hG.2.1.2.1, rfl, hG.2.1.2.2.2⟩, hG.2.2.1, hG.2.2.2.1, fun q => absurd q h8, fun _ => ⟨q1, ⟨q2.1, q2.2.1, ⟨q2.2.2.1.1.trans (congrArg nI e2.symm), hA⟩, q2.2.2.2⟩, ⟨q3.1, ⟨?_, ?_, ?_⟩, q3.2.2⟩, q4⟩, ⟨fun x y => ?_, (hG.2.2.2.2.2.2.1.le hab).2⟩, hG.2.2.2.2.2.2.2⟩
  · show (alT p.1 (a + 8) l 0 S.1.2.2.2.1).2 ≤ 64
    rw [e2]; exact q3.2.1.1
  · intro q
    show (alT p.1 (a + 8) l 0 S.1.2.2.2.1).2 ≤ _
    rw [e2]; exact q3.2.1.2.1 q
  · exact alT_b hB (a + 8) l 0 _ (by omega) q3.2.1.2.2
  · show (alT p.1 (a + 8) l 0 S.1.2.2.2.1).2 = 0
    rw [e2]; exact hG.2.2.2.2.2.2.1.1 x y
theorem RG.rws {g : Nat → Int32} {A : Nat → Nat → Int32} {S : aRs} {p : aRow} {a l : Nat} {f : Nat → Int32} (hG : RG g A S a) (_ : ¬ S.2.2 8 = 0) (h5 : S.2.2 5 = nI l) (hB : AllB p) (hf : a + 8 + l ≤ p.2) (hA : Ag (wAs (fun i => p.1 (a + 8 + i)) 0 l S.2.1).2 f (wAs (fun i => p.1 (a + 8 + i)) 0 l S.2.1).1) : RG (upd (upd g 39 1) 35 (nI (wAs (fun i => p.1 (a + 8 + i)) 0 l S.2.1).2)) (uA A 14 f) (rwS p a l S) (a + 12 + l) := by
  have e2 := wAs_2 (fun i => p.1 (a + 8 + i)) l 0 S.2.1
  have hI := hG.2.2.2.2.2.2.1
  refine ⟨hG.1, ⟨hG.2.1.1, hG.2.1.2.1, hG.2.1.2.2.1, rfl, hG.2.1.2.2.2.2⟩, ⟨rfl, hA, AllB.as l 0 _ hG.2.2.1.2.2 fun j _ h2 => hB _ (by omega)⟩, hG.2.2.2.1, hG.2.2.2.2.1, hG.2.2.2.2.2.1, ⟨hI.1, ?_, ?_⟩, fun _ => by show ¬ (1 : Int32) = 0; decide⟩
  · show S.2.2 7 + S.2.2 5 = nI (wAs (fun i => p.1 (a + 8 + i)) 0 l S.2.1).2
    rw [e2, hI.2.1, h5, nI_add]
  · show (wAs (fun i => p.1 (a + 8 + i)) 0 l S.2.1).2 ≤ _
    rw [e2]
    have := hI.2.2
    omega
theorem RfA.g35 {h : pmH} {m : Nat} {g : Nat → Int32} {A : Nat → Nat → Int32} {v : Int32} (e : g 35 = v) (hR : RfA h m g A) : RfA h m (upd g 35 v) A := by subst e; exact hR
set_option maxHeartbeats 4000000 in
theorem l_Ref_takePal {E : pmEv} {h0 : pmH} {z : Option Nat} {m : Nat} {g : Nat → Int32} {A : Nat → Nat → Int32} {o : Bool × aPic} {w p : aRow} {a l a2 : Nat} {P : aRow} {S2 : aRs} {ok : Prop} [Decidable ok] {e : Nat} (h20 : g 20 = nI e) (he : e ≤ 64) (hel : 3 * e ≤ l) (hb : RB g A o w p) (hfin : ∀ f, Ag (4 * P.2) f P.1 → RG g (uA A 7 f) S2 a2) (hy : ok) (hp : p.2 ≤ 2000) (hf : a + 12 + l ≤ p.2) : ∀ (n : Nat) (k : Nat) (c : aRow) (f : Nat → Int32) (h : pmH) (d : Bool), k + n = e → c.2 = k → RfA h m g (uA A 7 f) → Ag (4 * c.2) f c.1 → Sm h0 h m 17 → P = plT p.1 (a + 8) n k c → Go E (mRef_takePalette, h0, 0, 0) 52 [some (.ref m), some (.int (nI (a + 8))), some (.int (nI l)), some (.int (nI (k)))] [] (h, z, d) 0 0 (RetX (some (.int (bI ok))) (TkP m h0 o w p ok S2 a2) z) := by
  intro n
  induction n with
  | zero =>
    intro k c f h d hk hc hR hA hs hP
    subst hc
    have h13 := hb.2.2.1.2
    refine go_iload_n dRef_takePalette_52 rfl ?_
    refine go_aload_n dRef_takePalette_53 rfl ?_
    refine go_getf dRef_takePalette_54 qf_Ref_242 hR.1 rfl ?_
    refine go_top (y := nI e) (by exact h20) ?_
    refine go_icmp_ge (tgt := 141) dRef_takePalette_57 (fun c1 => ?_) (fun c1 => ?_)
    · refine go_iconst (v := 1) dRef_takePalette_141 (by decide) ?_
      refine go_iret dRef_takePalette_142 rfl rfl ?_ (Nat.le_of_ble_eq_true rfl) (Nat.le_of_ble_eq_true rfl)
      subst hP
      exact tk_yes hy hR hs hb (hfin f hA)
    · exact absurd (nI_le (a := e) (b := c.2) (by omega) (by omega)) c1
  | succ n ih =>
    intro k c f h d hk hc hR hA hs hP
    subst hc
    have h13 := hb.2.2.1.2
    refine go_iload_n dRef_takePalette_52 rfl ?_
    refine go_aload_n dRef_takePalette_53 rfl ?_
    refine go_getf dRef_takePalette_54 qf_Ref_242 hR.1 rfl ?_
    refine go_top (y := nI e) (by exact h20) ?_
    refine go_icmp_ge (tgt := 141) dRef_takePalette_57 (fun c1 => ?_) (fun c1 => ?_)
    · exact absurd c1 (nI_ge (a := c.2) (b := e) (by omega) (by omega))
    · refine go_aload_n dRef_takePalette_60 rfl ?_
      refine go_getf dRef_takePalette_61 qf_Ref_31 hR.1 rfl ?_
      refine go_iconst (v := 4) dRef_takePalette_64 (by decide) ?_
      refine go_iload_n dRef_takePalette_65 rfl ?_
      refine go_imul dRef_takePalette_66 ?_
      refine go_top (y := nI (4 * c.2)) (by rw [show (4 : Int32) = nI 4 from rfl, pk_mul]) ?_
      refine go_aload_n dRef_takePalette_67 rfl ?_
      refine go_getf dRef_takePalette_68 qf_Ref_49 hR.1 rfl ?_
      refine go_iload_n dRef_takePalette_71 rfl ?_
      refine go_iconst (v := 3) dRef_takePalette_72 (by decide) ?_
      refine go_iload_n dRef_takePalette_73 rfl ?_
      refine go_imul dRef_takePalette_74 ?_
      refine go_iadd dRef_takePalette_75 ?_
      refine go_top (y := nI (a + 8 + 3 * c.2)) (by rw [show (3 : Int32) = nI 3 from rfl, pk_mul, nI_add]) ?_
      refine go_iald dRef_takePalette_76 hR.2.2.2.2.2.2.2.2.2.2.2.2.2.2.1 (by exact vp_in_nI (by omega) (by omega)) (congrArg _ (nI_clamp (by omega))) ?_
      refine go_top (y := p.1 (a + 8 + 3 * c.2)) (by exact h13 _ (by omega)) ?_
      refine go_iast dRef_takePalette_77 hR.2.2.2.2.2.2.2.2.1 (by exact vp_in_nI (by omega) (by omega)) (nI_clamp (by omega)) ?_
      refine go_aload_n dRef_takePalette_78 rfl ?_
      refine go_getf dRef_takePalette_79 qf_Ref_31 ((pmU_n _ _ (by omega)).trans hR.1) rfl ?_
      refine go_iconst (v := 4) dRef_takePalette_82 (by decide) ?_
      refine go_iload_n dRef_takePalette_83 rfl ?_
      refine go_imul dRef_takePalette_84 ?_
      refine go_iconst (v := 1) dRef_takePalette_85 (by decide) ?_
      refine go_iadd dRef_takePalette_86 ?_
      refine go_top (y := nI (4 * c.2 + 1)) (by rw [show (4 : Int32) = nI 4 from rfl, pk_mul, show (1 : Int32) = nI 1 from rfl, nI_add]) ?_
      refine go_aload_n dRef_takePalette_87 rfl ?_
      refine go_getf dRef_takePalette_88 qf_Ref_49 ((pmU_n _ _ (by omega)).trans hR.1) rfl ?_
      refine go_iload_n dRef_takePalette_91 rfl ?_
      refine go_iconst (v := 3) dRef_takePalette_92 (by decide) ?_
      refine go_iload_n dRef_takePalette_93 rfl ?_
      refine go_imul dRef_takePalette_94 ?_
      refine go_iadd dRef_takePalette_95 ?_
      refine go_iconst (v := 1) dRef_takePalette_96 (by decide) ?_
      refine go_iadd dRef_takePalette_97 ?_
      refine go_top (y := nI (a + 8 + 3 * c.2 + 1)) (by rw [show (3 : Int32) = nI 3 from rfl, pk_mul, nI_add, show (1 : Int32) = nI 1 from rfl, nI_add]) ?_
      refine go_iald dRef_takePalette_98 ((pmU_n _ _ (by omega)).trans hR.2.2.2.2.2.2.2.2.2.2.2.2.2.2.1) (by exact vp_in_nI (by omega) (by omega)) (congrArg _ (nI_clamp (by omega))) ?_
      refine go_top (y := p.1 (a + 8 + 3 * c.2 + 1)) (by exact h13 _ (by omega)) ?_
      refine go_iast dRef_takePalette_99 (pmU_s _ _ _) (by exact vp_in_nI (by omega) (by omega)) (nI_clamp (by omega)) ?_
      refine go_aload_n dRef_takePalette_100 rfl ?_
      refine go_getf dRef_takePalette_101 qf_Ref_31 ((pmU_n _ _ (by omega)).trans ((pmU_n _ _ (by omega)).trans hR.1)) rfl ?_
      refine go_iconst (v := 4) dRef_takePalette_104 (by decide) ?_
      refine go_iload_n dRef_takePalette_105 rfl ?_
      refine go_imul dRef_takePalette_106 ?_
      refine go_iconst (v := 2) dRef_takePalette_107 (by decide) ?_
      refine go_iadd dRef_takePalette_108 ?_
      refine go_top (y := nI (4 * c.2 + 2)) (by rw [show (4 : Int32) = nI 4 from rfl, pk_mul, show (2 : Int32) = nI 2 from rfl, nI_add]) ?_
      refine go_aload_n dRef_takePalette_109 rfl ?_
      refine go_getf dRef_takePalette_110 qf_Ref_49 ((pmU_n _ _ (by omega)).trans ((pmU_n _ _ (by omega)).trans hR.1)) rfl ?_
      refine go_iload_n dRef_takePalette_113 rfl ?_
      refine go_iconst (v := 3) dRef_takePalette_114 (by decide) ?_
      refine go_iload_n dRef_takePalette_115 rfl ?_
      refine go_imul dRef_takePalette_116 ?_
      refine go_iadd dRef_takePalette_117 ?_
      refine go_iconst (v := 2) dRef_takePalette_118 (by decide) ?_
      refine go_iadd dRef_takePalette_119 ?_
      refine go_top (y := nI (a + 8 + 3 * c.2 + 2)) (by rw [show (3 : Int32) = nI 3 from rfl, pk_mul, nI_add, show (2 : Int32) = nI 2 from rfl, nI_add]) ?_
      refine go_iald dRef_takePalette_120 ((pmU_n _ _ (by omega)).trans ((pmU_n _ _ (by omega)).trans hR.2.2.2.2.2.2.2.2.2.2.2.2.2.2.1)) (by exact vp_in_nI (by omega) (by omega)) (congrArg _ (nI_clamp (by omega))) ?_
      refine go_top (y := p.1 (a + 8 + 3 * c.2 + 2)) (by exact h13 _ (by omega)) ?_
      refine go_iast dRef_takePalette_121 (pmU_s _ _ _) (by exact vp_in_nI (by omega) (by omega)) (nI_clamp (by omega)) ?_
      refine go_aload_n dRef_takePalette_122 rfl ?_
      refine go_getf dRef_takePalette_123 qf_Ref_31 ((pmU_n _ _ (by omega)).trans ((pmU_n _ _ (by omega)).trans ((pmU_n _ _ (by omega)).trans hR.1))) rfl ?_
      refine go_iconst (v := 4) dRef_takePalette_126 (by decide) ?_
      refine go_iload_n dRef_takePalette_127 rfl ?_
      refine go_imul dRef_takePalette_128 ?_
      refine go_iconst (v := 3) dRef_takePalette_129 (by decide) ?_
      refine go_iadd dRef_takePalette_130 ?_
      refine go_top (y := nI (4 * c.2 + 3)) (by rw [show (4 : Int32) = nI 4 from rfl, pk_mul, show (3 : Int32) = nI 3 from rfl, nI_add]) ?_
      refine go_sipush (v := 255) dRef_takePalette_131 (by decide) ?_
      refine go_iast dRef_takePalette_134 (pmU_s _ _ _) (by exact vp_in_nI (by omega) (by omega)) (nI_clamp (by omega)) ?_
      refine go_iinc dRef_takePalette_135 rfl (congrArg (_ + ·) lit1) ?_
      refine go_goto (tgt := 52) dRef_takePalette_138 ?_
      refine go_nm (fun hnk1 enk1 => ?_)
      have gsk1 : Sm h hnk1 m 17 := by rw [enk1]; exact (Sm.put' (Sm.put' (Sm.put' (Sm.put' (Sm.refl _ _ _) _ (by omega) (by omega)) _ (by omega) (by omega)) _ (by omega) (by omega)) _ (by omega) (by omega))
      have hRk1 : RfA hnk1 m (g) (uA A 7 (upd (upd (upd (upd f (4 * c.2) (p.1 (a + 8 + 3 * c.2))) (4 * c.2 + 1) (p.1 (a + 8 + 3 * c.2 + 1))) (4 * c.2 + 2) (p.1 (a + 8 + 3 * c.2 + 2))) (4 * c.2 + 3) 255)) := ⟨(congrFun enk1 m).trans ((pmU_n _ _ (by omega)).trans ((pmU_n _ _ (by omega)).trans ((pmU_n _ _ (by omega)).trans ((pmU_n _ _ (by omega)).trans hR.1)))), (congrFun enk1 (m + 1)).trans ((pmU_n _ _ (by omega)).trans ((pmU_n _ _ (by omega)).trans ((pmU_n _ _ (by omega)).trans ((pmU_n _ _ (by omega)).trans hR.2.1)))), (congrFun enk1 (m + 2)).trans ((pmU_n _ _ (by omega)).trans ((pmU_n _ _ (by omega)).trans ((pmU_n _ _ (by omega)).trans ((pmU_n _ _ (by omega)).trans hR.2.2.1)))), (congrFun enk1 (m + 3)).trans ((pmU_n _ _ (by omega)).trans ((pmU_n _ _ (by omega)).trans ((pmU_n _ _ (by omega)).trans ((pmU_n _ _ (by omega)).trans hR.2.2.2.1)))), (congrFun enk1 (m + 4)).trans ((pmU_n _ _ (by omega)).trans ((pmU_n _ _ (by omega)).trans ((pmU_n _ _ (by omega)).trans ((pmU_n _ _ (by omega)).trans hR.2.2.2.2.1)))), (congrFun enk1 (m + 5)).trans ((pmU_n _ _ (by omega)).trans ((pmU_n _ _ (by omega)).trans ((pmU_n _ _ (by omega)).trans ((pmU_n _ _ (by omega)).trans hR.2.2.2.2.2.1)))), (congrFun enk1 (m + 6)).trans ((pmU_n _ _ (by omega)).trans ((pmU_n _ _ (by omega)).trans ((pmU_n _ _ (by omega)).trans ((pmU_n _ _ (by omega)).trans hR.2.2.2.2.2.2.1)))), (congrFun enk1 (m + 7)).trans ((pmU_n _ _ (by omega)).trans ((pmU_n _ _ (by omega)).trans ((pmU_n _ _ (by omega)).trans ((pmU_n _ _ (by omega)).trans hR.2.2.2.2.2.2.2.1)))), (congrFun enk1 (m + 8)).trans (pmU_s _ _ _), (congrFun enk1 (m + 9)).trans ((pmU_n _ _ (by omega)).trans ((pmU_n _ _ (by omega)).trans ((pmU_n _ _ (by omega)).trans ((pmU_n _ _ (by omega)).trans hR.2.2.2.2.2.2.2.2.2.1)))), (congrFun enk1 (m + 10)).trans ((pmU_n _ _ (by omega)).trans ((pmU_n _ _ (by omega)).trans ((pmU_n _ _ (by omega)).trans ((pmU_n _ _ (by omega)).trans hR.2.2.2.2.2.2.2.2.2.2.1)))), (congrFun enk1 (m + 11)).trans ((pmU_n _ _ (by omega)).trans ((pmU_n _ _ (by omega)).trans ((pmU_n _ _ (by omega)).trans ((pmU_n _ _ (by omega)).trans hR.2.2.2.2.2.2.2.2.2.2.2.1)))), (congrFun enk1 (m + 12)).trans ((pmU_n _ _ (by omega)).trans ((pmU_n _ _ (by omega)).trans ((pmU_n _ _ (by omega)).trans ((pmU_n _ _ (by omega)).trans hR.2.2.2.2.2.2.2.2.2.2.2.2.1)))), (congrFun enk1 (m + 13)).trans ((pmU_n _ _ (by omega)).trans ((pmU_n _ _ (by omega)).trans ((pmU_n _ _ (by omega)).trans ((pmU_n _ _ (by omega)).trans hR.2.2.2.2.2.2.2.2.2.2.2.2.2.1)))), (congrFun enk1 (m + 14)).trans ((pmU_n _ _ (by omega)).trans ((pmU_n _ _ (by omega)).trans ((pmU_n _ _ (by omega)).trans ((pmU_n _ _ (by omega)).trans hR.2.2.2.2.2.2.2.2.2.2.2.2.2.2.1)))), (congrFun enk1 (m + 15)).trans ((pmU_n _ _ (by omega)).trans ((pmU_n _ _ (by omega)).trans ((pmU_n _ _ (by omega)).trans ((pmU_n _ _ (by omega)).trans hR.2.2.2.2.2.2.2.2.2.2.2.2.2.2.2.1)))), (congrFun enk1 (m + 16)).trans ((pmU_n _ _ (by omega)).trans ((pmU_n _ _ (by omega)).trans ((pmU_n _ _ (by omega)).trans ((pmU_n _ _ (by omega)).trans hR.2.2.2.2.2.2.2.2.2.2.2.2.2.2.2.2))))⟩
      have sk1 := hs.trans gsk1
      exact go_at (ih (c.2 + 1) (plA c (p.1 (a + 8 + 3 * c.2)) (p.1 (a + 8 + 3 * c.2 + 1)) (p.1 (a + 8 + 3 * c.2 + 2)) 255) _ _ _ (by omega) rfl hRk1 (plA_ag hA) sk1 (by rw [hP, plT])) rfl (by rw [nI_succ c.2]; rfl) rfl rfl
set_option maxHeartbeats 4000000 in
theorem r_takePalette {E : pmEv} {h : pmH} {z : Option Nat} {m : Nat} {g : Nat → Int32} {A : Nat → Nat → Int32} {o : Bool × aPic} {w p : aRow} {S : aRs} {a l : Nat} (h8 : ¬ S.2.2 8 = 0) (hc0 : S.1.2.2.2.1.2 = 0) (hR : RfA h m g A) (hb : RB g A o w p) (hG : RG g A S a) (hp : p.2 ≤ 2000) (hB : AllB p) (hl : l ≤ 255) (hf : a + 12 + l ≤ p.2) : Call E mRef_takePalette [.ref m, .int (nI (a + 8)), .int (nI l)] h z 0 0 (RetX (some (.int (bI (plOk l S.1.2.1.2.2.1)))) (TkP m h o w p (plOk l S.1.2.1.2.2.1) (plS p a l S) (a + 12 + l)) z) := by
  have hs : Sm h h m 17 := Sm.refl _ _ _
  have h13 := hb.2.2.1.2
  have hH := hG.hd h8
  have hmin : min 64 (2 ^ S.1.2.1.2.2.1) ≤ 64 := Nat.min_le_left _ _
  refine call_of (L := [some (.ref m), some (.int (nI (a + 8))), some (.int (nI l)), none]) ok_mRef_takePalette (Nat.le_of_ble_eq_true rfl) ?_
  refine go_aload_n dRef_takePalette_0 rfl ?_
  refine go_iconst (v := 1) dRef_takePalette_1 (by decide) ?_
  refine go_putf dRef_takePalette_2 qf_Ref_221 pw_8_37 hR.1 rfl rfl ?_
  refine go_nm (fun hnk1 enk1 => ?_)
  have gsk1 : Sm h hnk1 m 17 := by rw [enk1]; exact (Sm.put' (Sm.refl _ _ _) _ (by omega) (by omega))
  have hRk1 : RfA hnk1 m (upd g 37 1) (A) := ⟨(congrFun enk1 m).trans (pmU_s _ _ _), (congrFun enk1 (m + 1)).trans ((pmU_n _ _ (by omega)).trans hR.2.1), (congrFun enk1 (m + 2)).trans ((pmU_n _ _ (by omega)).trans hR.2.2.1), (congrFun enk1 (m + 3)).trans ((pmU_n _ _ (by omega)).trans hR.2.2.2.1), (congrFun enk1 (m + 4)).trans ((pmU_n _ _ (by omega)).trans hR.2.2.2.2.1), (congrFun enk1 (m + 5)).trans ((pmU_n _ _ (by omega)).trans hR.2.2.2.2.2.1), (congrFun enk1 (m + 6)).trans ((pmU_n _ _ (by omega)).trans hR.2.2.2.2.2.2.1), (congrFun enk1 (m + 7)).trans ((pmU_n _ _ (by omega)).trans hR.2.2.2.2.2.2.2.1), (congrFun enk1 (m + 8)).trans ((pmU_n _ _ (by omega)).trans hR.2.2.2.2.2.2.2.2.1), (congrFun enk1 (m + 9)).trans ((pmU_n _ _ (by omega)).trans hR.2.2.2.2.2.2.2.2.2.1), (congrFun enk1 (m + 10)).trans ((pmU_n _ _ (by omega)).trans hR.2.2.2.2.2.2.2.2.2.2.1), (congrFun enk1 (m + 11)).trans ((pmU_n _ _ (by omega)).trans hR.2.2.2.2.2.2.2.2.2.2.2.1), (congrFun enk1 (m + 12)).trans ((pmU_n _ _ (by omega)).trans hR.2.2.2.2.2.2.2.2.2.2.2.2.1), (congrFun enk1 (m + 13)).trans ((pmU_n _ _ (by omega)).trans hR.2.2.2.2.2.2.2.2.2.2.2.2.2.1), (congrFun enk1 (m + 14)).trans ((pmU_n _ _ (by omega)).trans hR.2.2.2.2.2.2.2.2.2.2.2.2.2.2.1), (congrFun enk1 (m + 15)).trans ((pmU_n _ _ (by omega)).trans hR.2.2.2.2.2.2.2.2.2.2.2.2.2.2.2.1), (congrFun enk1 (m + 16)).trans ((pmU_n _ _ (by omega)).trans hR.2.2.2.2.2.2.2.2.2.2.2.2.2.2.2.2)⟩
  have sk1 := hs.trans gsk1
  refine go_iload_n dRef_takePalette_5 rfl ?_
  refine go_iconst (v := 3) dRef_takePalette_6 (by decide) ?_
  refine go_irem dRef_takePalette_7 (by decide) ?_
  refine go_top (y := nI (l % 3)) (by exact pk_rem (d := 3) (by omega) (by omega) (by omega)) ?_
  refine go_if_ne (tgt := 29) dRef_takePalette_8 (fun c1 => ?_) (fun c1 => ?_)
  · refine go_iconst (v := 0) dRef_takePalette_29 (by decide) ?_
    refine go_iret dRef_takePalette_30 rfl rfl ?_ (Nat.le_of_ble_eq_true rfl) (Nat.le_of_ble_eq_true rfl)
    exact tk_no (fun q => c1 (by rw [q.1]; rfl)) hRk1 sk1 hb hG.1
  · refine go_iload_n dRef_takePalette_11 rfl ?_
    refine go_iconst (v := 3) dRef_takePalette_12 (by decide) ?_
    refine go_icmp_lt (tgt := 29) dRef_takePalette_13 (fun c2 => ?_) (fun c2 => ?_)
    · refine go_iconst (v := 0) dRef_takePalette_29 (by decide) ?_
      refine go_iret dRef_takePalette_30 rfl rfl ?_ (Nat.le_of_ble_eq_true rfl) (Nat.le_of_ble_eq_true rfl)
      exact tk_no (fun q => absurd ((nI_ltI (b := 3) (by omega) (by omega)).mp c2) (by omega)) hRk1 sk1 hb hG.1
    · refine go_iload_n dRef_takePalette_16 rfl ?_
      refine go_iconst (v := 3) dRef_takePalette_17 (by decide) ?_
      refine go_idiv dRef_takePalette_18 (by decide) ?_
      refine go_top (y := nI (l / 3)) (by exact pk_div (d := 3) (by omega) (by omega) (by omega)) ?_
      refine go_aload_n dRef_takePalette_19 rfl ?_
      refine go_getf dRef_takePalette_20 qf_Ref_239 hRk1.1 rfl ?_
      refine go_top (y := nI S.1.2.1.2.2.1) (by exact hH.2.1.1.2.2.1) ?_
      refine go_statP dRef_takePalette_23 ok_mRef_mostEntries st_mRef_mostEntries qm_Ref_93 (r_mostEntries hH.2.2.1.1.bb) ?_ (hnp := np_mRef_mostEntries)
      refine go_icmp_le (tgt := 31) dRef_takePalette_26 (fun c3 => ?_) (fun c3 => ?_)
      · have hok : plOk l S.1.2.1.2.2.1 := ⟨(nI_inj (b := 0) (by omega) (by omega)).mp c1, by have : ¬ l < 3 := fun q => c2 (nI_lt (a := l) (b := 3) q (by omega)); omega, (nI_leI (by omega) (by omega)).mp c3⟩
        refine go_aload_n dRef_takePalette_31 rfl ?_
        refine go_aload_n dRef_takePalette_32 rfl ?_
        refine go_getf dRef_takePalette_33 qf_Ref_224 hRk1.1 rfl ?_
        refine go_top (y := nI S.1.2.1.2.2.2) (by exact hH.2.1.1.2.2.2) ?_
        refine go_iconst (v := 3) dRef_takePalette_36 (by decide) ?_
        refine go_icmp_ne (tgt := 46) dRef_takePalette_37 (fun c4 => ?_) (fun c4 => ?_)
        · refine go_iconst (v := 0) dRef_takePalette_46 (by decide) ?_
          refine go_top (y := nI 0) (by rfl) ?_
          refine go_putf dRef_takePalette_47 qf_Ref_242 pw_8_20 hRk1.1 rfl rfl ?_
          refine go_nm (fun hnk2 enk2 => ?_)
          have gsk2 : Sm hnk1 hnk2 m 17 := by rw [enk2]; exact (Sm.put' (Sm.refl _ _ _) _ (by omega) (by omega))
          have hRk2 : RfA hnk2 m (upd (upd g 37 1) 20 (nI 0)) (A) := ⟨(congrFun enk2 m).trans (pmU_s _ _ _), (congrFun enk2 (m + 1)).trans ((pmU_n _ _ (by omega)).trans hRk1.2.1), (congrFun enk2 (m + 2)).trans ((pmU_n _ _ (by omega)).trans hRk1.2.2.1), (congrFun enk2 (m + 3)).trans ((pmU_n _ _ (by omega)).trans hRk1.2.2.2.1), (congrFun enk2 (m + 4)).trans ((pmU_n _ _ (by omega)).trans hRk1.2.2.2.2.1), (congrFun enk2 (m + 5)).trans ((pmU_n _ _ (by omega)).trans hRk1.2.2.2.2.2.1), (congrFun enk2 (m + 6)).trans ((pmU_n _ _ (by omega)).trans hRk1.2.2.2.2.2.2.1), (congrFun enk2 (m + 7)).trans ((pmU_n _ _ (by omega)).trans hRk1.2.2.2.2.2.2.2.1), (congrFun enk2 (m + 8)).trans ((pmU_n _ _ (by omega)).trans hRk1.2.2.2.2.2.2.2.2.1), (congrFun enk2 (m + 9)).trans ((pmU_n _ _ (by omega)).trans hRk1.2.2.2.2.2.2.2.2.2.1), (congrFun enk2 (m + 10)).trans ((pmU_n _ _ (by omega)).trans hRk1.2.2.2.2.2.2.2.2.2.2.1), (congrFun enk2 (m + 11)).trans ((pmU_n _ _ (by omega)).trans hRk1.2.2.2.2.2.2.2.2.2.2.2.1), (congrFun enk2 (m + 12)).trans ((pmU_n _ _ (by omega)).trans hRk1.2.2.2.2.2.2.2.2.2.2.2.2.1), (congrFun enk2 (m + 13)).trans ((pmU_n _ _ (by omega)).trans hRk1.2.2.2.2.2.2.2.2.2.2.2.2.2.1), (congrFun enk2 (m + 14)).trans ((pmU_n _ _ (by omega)).trans hRk1.2.2.2.2.2.2.2.2.2.2.2.2.2.2.1), (congrFun enk2 (m + 15)).trans ((pmU_n _ _ (by omega)).trans hRk1.2.2.2.2.2.2.2.2.2.2.2.2.2.2.2.1), (congrFun enk2 (m + 16)).trans ((pmU_n _ _ (by omega)).trans hRk1.2.2.2.2.2.2.2.2.2.2.2.2.2.2.2.2)⟩
          have sk2 := sk1.trans gsk2
          refine go_iconst (v := 0) dRef_takePalette_50 (by decide) ?_
          refine go_istore_n dRef_takePalette_51 ?_
          exact go_at (l_Ref_takePal (g := upd (upd g 37 1) 20 (nI 0)) (S2 := plS p a l S) (a2 := a + 12 + l) (e := 0) (P := (S.1.2.2.2.1.1, 0)) rfl (by omega) (by omega) hb (fun f _ => hG.palN h8 hc0 (fun q => c4 q) (by omega)) hok hp hf 0 0 (S.1.2.2.2.1.1, 0) (A 7) _ _ rfl rfl hRk2 (fun j hj => absurd hj (by omega)) sk2 rfl) rfl rfl rfl rfl
        · refine go_iload_n dRef_takePalette_40 rfl ?_
          refine go_iconst (v := 3) dRef_takePalette_41 (by decide) ?_
          refine go_idiv dRef_takePalette_42 (by decide) ?_
          refine go_top (y := nI (l / 3)) (by exact pk_div (d := 3) (by omega) (by omega) (by omega)) ?_
          refine go_goto (tgt := 47) dRef_takePalette_43 ?_
          skip
          refine go_putf dRef_takePalette_47 qf_Ref_242 pw_8_20 hRk1.1 rfl rfl ?_
          refine go_nm (fun hnk3 enk3 => ?_)
          have gsk3 : Sm hnk1 hnk3 m 17 := by rw [enk3]; exact (Sm.put' (Sm.refl _ _ _) _ (by omega) (by omega))
          have hRk3 : RfA hnk3 m (upd (upd g 37 1) 20 (nI (l / 3))) (A) := ⟨(congrFun enk3 m).trans (pmU_s _ _ _), (congrFun enk3 (m + 1)).trans ((pmU_n _ _ (by omega)).trans hRk1.2.1), (congrFun enk3 (m + 2)).trans ((pmU_n _ _ (by omega)).trans hRk1.2.2.1), (congrFun enk3 (m + 3)).trans ((pmU_n _ _ (by omega)).trans hRk1.2.2.2.1), (congrFun enk3 (m + 4)).trans ((pmU_n _ _ (by omega)).trans hRk1.2.2.2.2.1), (congrFun enk3 (m + 5)).trans ((pmU_n _ _ (by omega)).trans hRk1.2.2.2.2.2.1), (congrFun enk3 (m + 6)).trans ((pmU_n _ _ (by omega)).trans hRk1.2.2.2.2.2.2.1), (congrFun enk3 (m + 7)).trans ((pmU_n _ _ (by omega)).trans hRk1.2.2.2.2.2.2.2.1), (congrFun enk3 (m + 8)).trans ((pmU_n _ _ (by omega)).trans hRk1.2.2.2.2.2.2.2.2.1), (congrFun enk3 (m + 9)).trans ((pmU_n _ _ (by omega)).trans hRk1.2.2.2.2.2.2.2.2.2.1), (congrFun enk3 (m + 10)).trans ((pmU_n _ _ (by omega)).trans hRk1.2.2.2.2.2.2.2.2.2.2.1), (congrFun enk3 (m + 11)).trans ((pmU_n _ _ (by omega)).trans hRk1.2.2.2.2.2.2.2.2.2.2.2.1), (congrFun enk3 (m + 12)).trans ((pmU_n _ _ (by omega)).trans hRk1.2.2.2.2.2.2.2.2.2.2.2.2.1), (congrFun enk3 (m + 13)).trans ((pmU_n _ _ (by omega)).trans hRk1.2.2.2.2.2.2.2.2.2.2.2.2.2.1), (congrFun enk3 (m + 14)).trans ((pmU_n _ _ (by omega)).trans hRk1.2.2.2.2.2.2.2.2.2.2.2.2.2.2.1), (congrFun enk3 (m + 15)).trans ((pmU_n _ _ (by omega)).trans hRk1.2.2.2.2.2.2.2.2.2.2.2.2.2.2.2.1), (congrFun enk3 (m + 16)).trans ((pmU_n _ _ (by omega)).trans hRk1.2.2.2.2.2.2.2.2.2.2.2.2.2.2.2.2)⟩
          have sk3 := sk1.trans gsk3
          refine go_iconst (v := 0) dRef_takePalette_50 (by decide) ?_
          refine go_istore_n dRef_takePalette_51 ?_
          exact go_at (l_Ref_takePal (g := upd (upd g 37 1) 20 (nI (l / 3))) (S2 := plS p a l S) (a2 := a + 12 + l) (e := l / 3) (P := plT p.1 (a + 8) (l / 3) 0 S.1.2.2.2.1) rfl (by have := hok.2.2; omega) (by omega) hb (fun f hA => hG.pal h8 hc0 c4 hok hB (by omega) hA (by omega)) hok hp hf (l / 3) 0 S.1.2.2.2.1 (A 7) _ _ (by omega) hc0 hRk3 (fun j hj => absurd hj (by omega)) sk3 rfl) rfl rfl rfl rfl
      · refine go_iconst (v := 0) dRef_takePalette_29 (by decide) ?_
        refine go_iret dRef_takePalette_30 rfl rfl ?_ (Nat.le_of_ble_eq_true rfl) (Nat.le_of_ble_eq_true rfl)
        exact tk_no (fun q => c3 (nI_le q.2.2 (by omega))) hRk1 sk1 hb hG.1
set_option maxHeartbeats 4000000 in
theorem l_Ref_takeAl {E : pmEv} {h0 : pmH} {z : Option Nat} {m : Nat} {g : Nat → Int32} {A : Nat → Nat → Int32} {o : Bool × aPic} {w p : aRow} {a l a2 : Nat} {P : aRow} {S2 : aRs} {ok : Prop} [Decidable ok] (hl64 : l ≤ 64) (hb : RB g A o w p) (hfin : ∀ f, Ag (4 * P.2) f P.1 → RG g (uA A 7 f) S2 a2) (hy : ok) (hp : p.2 ≤ 2000) (hf : a + 12 + l ≤ p.2) : ∀ (n : Nat) (k : Nat) (c : aRow) (f : Nat → Int32) (h : pmH) (d : Bool), k + n = l → c.2 ≤ 64 → RfA h m g (uA A 7 f) → Ag (4 * c.2) f c.1 → Sm h0 h m 17 → P = alT p.1 (a + 8) n k c → Go E (mRef_takeAlphas, h0, 0, 0) 30 [some (.ref m), some (.int (nI (a + 8))), some (.int (nI l)), some (.int (nI (k)))] [] (h, z, d) 0 0 (RetX (some (.int (bI ok))) (TkP m h0 o w p ok S2 a2) z) := by
  intro n
  induction n with
  | zero =>
    intro k c f h d hk hc hR hA hs hP
    have h13 := hb.2.2.1.2
    refine go_iload_n dRef_takeAlphas_30 rfl ?_
    refine go_iload_n dRef_takeAlphas_31 rfl ?_
    refine go_icmp_ge (tgt := 59) dRef_takeAlphas_32 (fun c1 => ?_) (fun c1 => ?_)
    · refine go_iconst (v := 1) dRef_takeAlphas_59 (by decide) ?_
      refine go_iret dRef_takeAlphas_60 rfl rfl ?_ (Nat.le_of_ble_eq_true rfl) (Nat.le_of_ble_eq_true rfl)
      subst hP
      exact tk_yes hy hR hs hb (hfin f hA)
    · exact absurd (nI_le (a := l) (b := k) (by omega) (by omega)) c1
  | succ n ih =>
    intro k c f h d hk hc hR hA hs hP
    have h13 := hb.2.2.1.2
    refine go_iload_n dRef_takeAlphas_30 rfl ?_
    refine go_iload_n dRef_takeAlphas_31 rfl ?_
    refine go_icmp_ge (tgt := 59) dRef_takeAlphas_32 (fun c1 => ?_) (fun c1 => ?_)
    · exact absurd c1 (nI_ge (a := k) (b := l) (by omega) (by omega))
    · refine go_aload_n dRef_takeAlphas_35 rfl ?_
      refine go_getf dRef_takeAlphas_36 qf_Ref_31 hR.1 rfl ?_
      refine go_iconst (v := 4) dRef_takeAlphas_39 (by decide) ?_
      refine go_iload_n dRef_takeAlphas_40 rfl ?_
      refine go_imul dRef_takeAlphas_41 ?_
      refine go_iconst (v := 3) dRef_takeAlphas_42 (by decide) ?_
      refine go_iadd dRef_takeAlphas_43 ?_
      refine go_top (y := nI (4 * k + 3)) (by rw [show (4 : Int32) = nI 4 from rfl, pk_mul, show (3 : Int32) = nI 3 from rfl, nI_add]) ?_
      refine go_aload_n dRef_takeAlphas_44 rfl ?_
      refine go_getf dRef_takeAlphas_45 qf_Ref_49 hR.1 rfl ?_
      refine go_iload_n dRef_takeAlphas_48 rfl ?_
      refine go_iload_n dRef_takeAlphas_49 rfl ?_
      refine go_iadd dRef_takeAlphas_50 ?_
      refine go_top (y := nI (a + 8 + k)) (by rw [nI_add]) ?_
      refine go_iald dRef_takeAlphas_51 hR.2.2.2.2.2.2.2.2.2.2.2.2.2.2.1 (by exact vp_in_nI (by omega) (by omega)) (congrArg _ (nI_clamp (by omega))) ?_
      refine go_top (y := p.1 (a + 8 + k)) (by exact h13 _ (by omega)) ?_
      refine go_iast dRef_takeAlphas_52 hR.2.2.2.2.2.2.2.2.1 (by exact vp_in_nI (by omega) (by omega)) (nI_clamp (by omega)) ?_
      refine go_iinc dRef_takeAlphas_53 rfl (congrArg (_ + ·) lit1) ?_
      refine go_goto (tgt := 30) dRef_takeAlphas_56 ?_
      refine go_nm (fun hnk1 enk1 => ?_)
      have gsk1 : Sm h hnk1 m 17 := by rw [enk1]; exact (Sm.put' (Sm.refl _ _ _) _ (by omega) (by omega))
      have hRk1 : RfA hnk1 m (g) (uA A 7 (upd f (4 * k + 3) (p.1 (a + 8 + k)))) := ⟨(congrFun enk1 m).trans ((pmU_n _ _ (by omega)).trans hR.1), (congrFun enk1 (m + 1)).trans ((pmU_n _ _ (by omega)).trans hR.2.1), (congrFun enk1 (m + 2)).trans ((pmU_n _ _ (by omega)).trans hR.2.2.1), (congrFun enk1 (m + 3)).trans ((pmU_n _ _ (by omega)).trans hR.2.2.2.1), (congrFun enk1 (m + 4)).trans ((pmU_n _ _ (by omega)).trans hR.2.2.2.2.1), (congrFun enk1 (m + 5)).trans ((pmU_n _ _ (by omega)).trans hR.2.2.2.2.2.1), (congrFun enk1 (m + 6)).trans ((pmU_n _ _ (by omega)).trans hR.2.2.2.2.2.2.1), (congrFun enk1 (m + 7)).trans ((pmU_n _ _ (by omega)).trans hR.2.2.2.2.2.2.2.1), (congrFun enk1 (m + 8)).trans (pmU_s _ _ _), (congrFun enk1 (m + 9)).trans ((pmU_n _ _ (by omega)).trans hR.2.2.2.2.2.2.2.2.2.1), (congrFun enk1 (m + 10)).trans ((pmU_n _ _ (by omega)).trans hR.2.2.2.2.2.2.2.2.2.2.1), (congrFun enk1 (m + 11)).trans ((pmU_n _ _ (by omega)).trans hR.2.2.2.2.2.2.2.2.2.2.2.1), (congrFun enk1 (m + 12)).trans ((pmU_n _ _ (by omega)).trans hR.2.2.2.2.2.2.2.2.2.2.2.2.1), (congrFun enk1 (m + 13)).trans ((pmU_n _ _ (by omega)).trans hR.2.2.2.2.2.2.2.2.2.2.2.2.2.1), (congrFun enk1 (m + 14)).trans ((pmU_n _ _ (by omega)).trans hR.2.2.2.2.2.2.2.2.2.2.2.2.2.2.1), (congrFun enk1 (m + 15)).trans ((pmU_n _ _ (by omega)).trans hR.2.2.2.2.2.2.2.2.2.2.2.2.2.2.2.1), (congrFun enk1 (m + 16)).trans ((pmU_n _ _ (by omega)).trans hR.2.2.2.2.2.2.2.2.2.2.2.2.2.2.2.2)⟩
      have sk1 := hs.trans gsk1
      exact go_at (ih (k + 1) (upd c.1 (4 * k + 3) (p.1 (a + 8 + k)), c.2) _ _ _ (by omega) hc hRk1 (hA.up _ _) sk1 (by rw [hP, alT])) rfl (by rw [nI_succ k]; rfl) rfl rfl
set_option maxHeartbeats 4000000 in
theorem r_takeAlphas {E : pmEv} {h : pmH} {z : Option Nat} {m : Nat} {g : Nat → Int32} {A : Nat → Nat → Int32} {o : Bool × aPic} {w p : aRow} {S : aRs} {a l : Nat} (h8 : ¬ S.2.2 8 = 0) (hR : RfA h m g A) (hb : RB g A o w p) (hG : RG g A S a) (hp : p.2 ≤ 2000) (hB : AllB p) (hl : l ≤ 255) (hf : a + 12 + l ≤ p.2) : Call E mRef_takeAlphas [.ref m, .int (nI (a + 8)), .int (nI l)] h z 0 0 (RetX (some (.int (bI (alOk l S.1.2)))) (TkP m h o w p (alOk l S.1.2) (alS p a l S) (a + 12 + l)) z) := by
  have hs : Sm h h m 17 := Sm.refl _ _ _
  have h13 := hb.2.2.1.2
  have hH := hG.hd h8
  have h64 := hH.2.2.1.2.1.1
  refine call_of (L := [some (.ref m), some (.int (nI (a + 8))), some (.int (nI l)), none]) ok_mRef_takeAlphas (Nat.le_of_ble_eq_true rfl) ?_
  refine go_aload_n dRef_takeAlphas_0 rfl ?_
  refine go_iconst (v := 1) dRef_takeAlphas_1 (by decide) ?_
  refine go_putf dRef_takeAlphas_2 qf_Ref_227 pw_8_38 hR.1 rfl rfl ?_
  refine go_nm (fun hnk1 enk1 => ?_)
  have gsk1 : Sm h hnk1 m 17 := by rw [enk1]; exact (Sm.put' (Sm.refl _ _ _) _ (by omega) (by omega))
  have hRk1 : RfA hnk1 m (upd g 38 1) (A) := ⟨(congrFun enk1 m).trans (pmU_s _ _ _), (congrFun enk1 (m + 1)).trans ((pmU_n _ _ (by omega)).trans hR.2.1), (congrFun enk1 (m + 2)).trans ((pmU_n _ _ (by omega)).trans hR.2.2.1), (congrFun enk1 (m + 3)).trans ((pmU_n _ _ (by omega)).trans hR.2.2.2.1), (congrFun enk1 (m + 4)).trans ((pmU_n _ _ (by omega)).trans hR.2.2.2.2.1), (congrFun enk1 (m + 5)).trans ((pmU_n _ _ (by omega)).trans hR.2.2.2.2.2.1), (congrFun enk1 (m + 6)).trans ((pmU_n _ _ (by omega)).trans hR.2.2.2.2.2.2.1), (congrFun enk1 (m + 7)).trans ((pmU_n _ _ (by omega)).trans hR.2.2.2.2.2.2.2.1), (congrFun enk1 (m + 8)).trans ((pmU_n _ _ (by omega)).trans hR.2.2.2.2.2.2.2.2.1), (congrFun enk1 (m + 9)).trans ((pmU_n _ _ (by omega)).trans hR.2.2.2.2.2.2.2.2.2.1), (congrFun enk1 (m + 10)).trans ((pmU_n _ _ (by omega)).trans hR.2.2.2.2.2.2.2.2.2.2.1), (congrFun enk1 (m + 11)).trans ((pmU_n _ _ (by omega)).trans hR.2.2.2.2.2.2.2.2.2.2.2.1), (congrFun enk1 (m + 12)).trans ((pmU_n _ _ (by omega)).trans hR.2.2.2.2.2.2.2.2.2.2.2.2.1), (congrFun enk1 (m + 13)).trans ((pmU_n _ _ (by omega)).trans hR.2.2.2.2.2.2.2.2.2.2.2.2.2.1), (congrFun enk1 (m + 14)).trans ((pmU_n _ _ (by omega)).trans hR.2.2.2.2.2.2.2.2.2.2.2.2.2.2.1), (congrFun enk1 (m + 15)).trans ((pmU_n _ _ (by omega)).trans hR.2.2.2.2.2.2.2.2.2.2.2.2.2.2.2.1), (congrFun enk1 (m + 16)).trans ((pmU_n _ _ (by omega)).trans hR.2.2.2.2.2.2.2.2.2.2.2.2.2.2.2.2)⟩
  have sk1 := hs.trans gsk1
  refine go_aload_n dRef_takeAlphas_5 rfl ?_
  refine go_getf dRef_takeAlphas_6 qf_Ref_224 hRk1.1 rfl ?_
  refine go_top (y := nI S.1.2.1.2.2.2) (by exact hH.2.1.1.2.2.2) ?_
  refine go_iconst (v := 3) dRef_takeAlphas_9 (by decide) ?_
  refine go_icmp_ne (tgt := 26) dRef_takeAlphas_10 (fun c1 => ?_) (fun c1 => ?_)
  · refine go_iconst (v := 0) dRef_takeAlphas_26 (by decide) ?_
    refine go_iret dRef_takeAlphas_27 rfl rfl ?_ (Nat.le_of_ble_eq_true rfl) (Nat.le_of_ble_eq_true rfl)
    exact tk_no (fun q => c1 q.1) hRk1 sk1 hb hG.1
  · refine go_iload_n dRef_takeAlphas_13 rfl ?_
    refine go_iconst (v := 1) dRef_takeAlphas_14 (by decide) ?_
    refine go_icmp_lt (tgt := 26) dRef_takeAlphas_15 (fun c2 => ?_) (fun c2 => ?_)
    · refine go_iconst (v := 0) dRef_takeAlphas_26 (by decide) ?_
      refine go_iret dRef_takeAlphas_27 rfl rfl ?_ (Nat.le_of_ble_eq_true rfl) (Nat.le_of_ble_eq_true rfl)
      exact tk_no (fun q => absurd ((nI_ltI (b := 1) (by omega) (by omega)).mp c2) (by have := q.2.1; omega)) hRk1 sk1 hb hG.1
    · refine go_iload_n dRef_takeAlphas_18 rfl ?_
      refine go_aload_n dRef_takeAlphas_19 rfl ?_
      refine go_getf dRef_takeAlphas_20 qf_Ref_242 hRk1.1 rfl ?_
      refine go_top (y := nI S.1.2.2.2.1.2) (by exact hH.2.1.2.2.1.1) ?_
      refine go_icmp_le (tgt := 28) dRef_takeAlphas_23 (fun c3 => ?_) (fun c3 => ?_)
      · refine go_iconst (v := 0) dRef_takeAlphas_28 (by decide) ?_
        refine go_istore_n dRef_takeAlphas_29 ?_
        have hok : alOk l S.1.2 := ⟨c1, by have : ¬ l < 1 := fun q => c2 (nI_lt (a := l) (b := 1) q (by omega)); omega, (nI_leI (by omega) (by omega)).mp c3⟩
        exact go_at (l_Ref_takeAl (g := upd g 38 1) (S2 := alS p a l S) (a2 := a + 12 + l) (P := alT p.1 (a + 8) l 0 S.1.2.2.2.1) (by have := hok.2.2; omega) hb (fun f hA => hG.alp h8 hok hB (by omega) hA (by omega)) hok hp hf l 0 S.1.2.2.2.1 (A 7) _ _ (by omega) (by omega) hRk1 hH.2.1.2.2.1.2 sk1 rfl) rfl rfl rfl rfl
      · refine go_iconst (v := 0) dRef_takeAlphas_26 (by decide) ?_
        refine go_iret dRef_takeAlphas_27 rfl rfl ?_ (Nat.le_of_ble_eq_true rfl) (Nat.le_of_ble_eq_true rfl)
        exact tk_no (fun q => c3 (nI_le q.2.2 (by omega))) hRk1 sk1 hb hG.1
set_option maxHeartbeats 4000000 in
theorem l_Ref_takeRw {E : pmEv} {h0 : pmH} {z : Option Nat} {m : Nat} {g : Nat → Int32} {A : Nat → Nat → Int32} {o : Bool × aPic} {w p : aRow} {a l a2 : Nat} {P : aRow} {S2 : aRs} {ok : Prop} [Decidable ok] (hb : RB g A o w p) (hfin : ∀ f, Ag P.2 f P.1 → RG (upd g 35 (nI P.2)) (uA A 14 f) S2 a2) (hy : ok) (hp : p.2 ≤ 2000) (hf : a + 12 + l ≤ p.2) (hl : l ≤ 255) : ∀ (n : Nat) (k : Nat) (q : aRow) (f : Nat → Int32) (h : pmH) (d : Bool), k + n = l → q.2 + n ≤ 2000 → RfA h m (upd g 35 (nI q.2)) (uA A 14 f) → Ag q.2 f q.1 → Sm h0 h m 17 → P = wAs (fun i => p.1 (a + 8 + i)) k n q → Go E (mRef_takeRows, h0, 0, 0) 7 [some (.ref m), some (.int (nI (a + 8))), some (.int (nI l)), some (.int (nI (k)))] [] (h, z, d) 0 0 (RetX (some (.int (bI ok))) (TkP m h0 o w p ok S2 a2) z) := by
  intro n
  induction n with
  | zero =>
    intro k q f h d hk hc hR hA hs hP
    have h13 := hb.2.2.1.2
    refine go_iload_n dRef_takeRows_7 rfl ?_
    refine go_iload_n dRef_takeRows_8 rfl ?_
    refine go_icmp_ge (tgt := 45) dRef_takeRows_9 (fun c1 => ?_) (fun c1 => ?_)
    · refine go_iconst (v := 1) dRef_takeRows_45 (by decide) ?_
      refine go_iret dRef_takeRows_46 rfl rfl ?_ (Nat.le_of_ble_eq_true rfl) (Nat.le_of_ble_eq_true rfl)
      subst hP
      exact tk_yes hy hR hs hb (hfin f hA)
    · exact absurd (nI_le (a := l) (b := k) (by omega) (by omega)) c1
  | succ n ih =>
    intro k q f h d hk hc hR hA hs hP
    have h13 := hb.2.2.1.2
    refine go_iload_n dRef_takeRows_7 rfl ?_
    refine go_iload_n dRef_takeRows_8 rfl ?_
    refine go_icmp_ge (tgt := 45) dRef_takeRows_9 (fun c1 => ?_) (fun c1 => ?_)
    · exact absurd c1 (nI_ge (a := k) (b := l) (by omega) (by omega))
    · refine go_aload_n dRef_takeRows_12 rfl ?_
      refine go_getf dRef_takeRows_13 qf_Ref_52 hR.1 rfl ?_
      refine go_aload_n dRef_takeRows_16 rfl ?_
      refine go_getf dRef_takeRows_17 qf_Ref_245 hR.1 rfl ?_
      refine go_top (y := nI q.2) (by rfl) ?_
      refine go_aload_n dRef_takeRows_20 rfl ?_
      refine go_getf dRef_takeRows_21 qf_Ref_49 hR.1 rfl ?_
      refine go_iload_n dRef_takeRows_24 rfl ?_
      refine go_iload_n dRef_takeRows_25 rfl ?_
      refine go_iadd dRef_takeRows_26 ?_
      refine go_top (y := nI (a + 8 + k)) (by rw [nI_add]) ?_
      refine go_iald dRef_takeRows_27 hR.2.2.2.2.2.2.2.2.2.2.2.2.2.2.1 (by exact vp_in_nI (by omega) (by omega)) (congrArg _ (nI_clamp (by omega))) ?_
      refine go_top (y := p.1 (a + 8 + k)) (by exact h13 _ (by omega)) ?_
      refine go_iast dRef_takeRows_28 hR.2.2.2.2.2.2.2.2.2.2.2.2.2.2.2.1 (by exact vp_in_nI (by omega) (by omega)) (nI_clamp (by omega)) ?_
      refine go_aload_n dRef_takeRows_29 rfl ?_
      refine go_dup dRef_takeRows_30 rfl ?_
      refine go_getf dRef_takeRows_31 qf_Ref_245 ((pmU_n _ _ (by omega)).trans hR.1) rfl ?_
      refine go_iconst (v := 1) dRef_takeRows_34 (by decide) ?_
      refine go_iadd dRef_takeRows_35 ?_
      refine go_top (y := nI (q.2 + 1)) (by exact nI_a1 _) ?_
      refine go_putf dRef_takeRows_36 qf_Ref_245 pw_8_35 ((pmU_n _ _ (by omega)).trans hR.1) rfl rfl ?_
      refine go_iinc dRef_takeRows_39 rfl (congrArg (_ + ·) lit1) ?_
      refine go_goto (tgt := 7) dRef_takeRows_42 ?_
      refine go_nm (fun hnk1 enk1 => ?_)
      have gsk1 : Sm h hnk1 m 17 := by rw [enk1]; exact (Sm.put' (Sm.put' (Sm.refl _ _ _) _ (by omega) (by omega)) _ (by omega) (by omega))
      have hRk1 : RfA hnk1 m (upd g 35 (nI (q.2 + 1))) (uA A 14 (upd f q.2 (p.1 (a + 8 + k)))) := ⟨(congrFun enk1 m).trans (pmU_s _ _ _), (congrFun enk1 (m + 1)).trans ((pmU_n _ _ (by omega)).trans ((pmU_n _ _ (by omega)).trans hR.2.1)), (congrFun enk1 (m + 2)).trans ((pmU_n _ _ (by omega)).trans ((pmU_n _ _ (by omega)).trans hR.2.2.1)), (congrFun enk1 (m + 3)).trans ((pmU_n _ _ (by omega)).trans ((pmU_n _ _ (by omega)).trans hR.2.2.2.1)), (congrFun enk1 (m + 4)).trans ((pmU_n _ _ (by omega)).trans ((pmU_n _ _ (by omega)).trans hR.2.2.2.2.1)), (congrFun enk1 (m + 5)).trans ((pmU_n _ _ (by omega)).trans ((pmU_n _ _ (by omega)).trans hR.2.2.2.2.2.1)), (congrFun enk1 (m + 6)).trans ((pmU_n _ _ (by omega)).trans ((pmU_n _ _ (by omega)).trans hR.2.2.2.2.2.2.1)), (congrFun enk1 (m + 7)).trans ((pmU_n _ _ (by omega)).trans ((pmU_n _ _ (by omega)).trans hR.2.2.2.2.2.2.2.1)), (congrFun enk1 (m + 8)).trans ((pmU_n _ _ (by omega)).trans ((pmU_n _ _ (by omega)).trans hR.2.2.2.2.2.2.2.2.1)), (congrFun enk1 (m + 9)).trans ((pmU_n _ _ (by omega)).trans ((pmU_n _ _ (by omega)).trans hR.2.2.2.2.2.2.2.2.2.1)), (congrFun enk1 (m + 10)).trans ((pmU_n _ _ (by omega)).trans ((pmU_n _ _ (by omega)).trans hR.2.2.2.2.2.2.2.2.2.2.1)), (congrFun enk1 (m + 11)).trans ((pmU_n _ _ (by omega)).trans ((pmU_n _ _ (by omega)).trans hR.2.2.2.2.2.2.2.2.2.2.2.1)), (congrFun enk1 (m + 12)).trans ((pmU_n _ _ (by omega)).trans ((pmU_n _ _ (by omega)).trans hR.2.2.2.2.2.2.2.2.2.2.2.2.1)), (congrFun enk1 (m + 13)).trans ((pmU_n _ _ (by omega)).trans ((pmU_n _ _ (by omega)).trans hR.2.2.2.2.2.2.2.2.2.2.2.2.2.1)), (congrFun enk1 (m + 14)).trans ((pmU_n _ _ (by omega)).trans ((pmU_n _ _ (by omega)).trans hR.2.2.2.2.2.2.2.2.2.2.2.2.2.2.1)), (congrFun enk1 (m + 15)).trans ((pmU_n _ _ (by omega)).trans (pmU_s _ _ _)), (congrFun enk1 (m + 16)).trans ((pmU_n _ _ (by omega)).trans ((pmU_n _ _ (by omega)).trans hR.2.2.2.2.2.2.2.2.2.2.2.2.2.2.2.2))⟩
      have sk1 := hs.trans gsk1
      exact go_at (ih (k + 1) (wA q (p.1 (a + 8 + k))) _ _ _ (by omega) (show q.2 + 1 + n ≤ 2000 by omega) hRk1 (hA.push _) sk1 (by rw [hP, wAs])) rfl (by rw [nI_succ k]; rfl) rfl rfl
set_option maxHeartbeats 4000000 in
theorem r_takeRows {E : pmEv} {h : pmH} {z : Option Nat} {m : Nat} {g : Nat → Int32} {A : Nat → Nat → Int32} {o : Bool × aPic} {w p : aRow} {S : aRs} {a l : Nat} (h8 : ¬ S.2.2 8 = 0) (h5 : S.2.2 5 = nI l) (hR : RfA h m g A) (hb : RB g A o w p) (hG : RG g A S a) (hp : p.2 ≤ 2000) (hB : AllB p) (hl : l ≤ 255) (hf : a + 12 + l ≤ p.2) : Call E mRef_takeRows [.ref m, .int (nI (a + 8)), .int (nI l)] h z 0 0 (RetX (some (.int (bI (True)))) (TkP m h o w p (True) (rwS p a l S) (a + 12 + l)) z) := by
  have hs : Sm h h m 17 := Sm.refl _ _ _
  have h13 := hb.2.2.1.2
  refine call_of (L := [some (.ref m), some (.int (nI (a + 8))), some (.int (nI l)), none]) ok_mRef_takeRows (Nat.le_of_ble_eq_true rfl) ?_
  refine go_aload_n dRef_takeRows_0 rfl ?_
  refine go_iconst (v := 1) dRef_takeRows_1 (by decide) ?_
  refine go_putf dRef_takeRows_2 qf_Ref_218 pw_8_39 hR.1 rfl rfl ?_
  refine go_nm (fun hnk1 enk1 => ?_)
  have gsk1 : Sm h hnk1 m 17 := by rw [enk1]; exact (Sm.put' (Sm.refl _ _ _) _ (by omega) (by omega))
  have hRk1 : RfA hnk1 m (upd g 39 1) (A) := ⟨(congrFun enk1 m).trans (pmU_s _ _ _), (congrFun enk1 (m + 1)).trans ((pmU_n _ _ (by omega)).trans hR.2.1), (congrFun enk1 (m + 2)).trans ((pmU_n _ _ (by omega)).trans hR.2.2.1), (congrFun enk1 (m + 3)).trans ((pmU_n _ _ (by omega)).trans hR.2.2.2.1), (congrFun enk1 (m + 4)).trans ((pmU_n _ _ (by omega)).trans hR.2.2.2.2.1), (congrFun enk1 (m + 5)).trans ((pmU_n _ _ (by omega)).trans hR.2.2.2.2.2.1), (congrFun enk1 (m + 6)).trans ((pmU_n _ _ (by omega)).trans hR.2.2.2.2.2.2.1), (congrFun enk1 (m + 7)).trans ((pmU_n _ _ (by omega)).trans hR.2.2.2.2.2.2.2.1), (congrFun enk1 (m + 8)).trans ((pmU_n _ _ (by omega)).trans hR.2.2.2.2.2.2.2.2.1), (congrFun enk1 (m + 9)).trans ((pmU_n _ _ (by omega)).trans hR.2.2.2.2.2.2.2.2.2.1), (congrFun enk1 (m + 10)).trans ((pmU_n _ _ (by omega)).trans hR.2.2.2.2.2.2.2.2.2.2.1), (congrFun enk1 (m + 11)).trans ((pmU_n _ _ (by omega)).trans hR.2.2.2.2.2.2.2.2.2.2.2.1), (congrFun enk1 (m + 12)).trans ((pmU_n _ _ (by omega)).trans hR.2.2.2.2.2.2.2.2.2.2.2.2.1), (congrFun enk1 (m + 13)).trans ((pmU_n _ _ (by omega)).trans hR.2.2.2.2.2.2.2.2.2.2.2.2.2.1), (congrFun enk1 (m + 14)).trans ((pmU_n _ _ (by omega)).trans hR.2.2.2.2.2.2.2.2.2.2.2.2.2.2.1), (congrFun enk1 (m + 15)).trans ((pmU_n _ _ (by omega)).trans hR.2.2.2.2.2.2.2.2.2.2.2.2.2.2.2.1), (congrFun enk1 (m + 16)).trans ((pmU_n _ _ (by omega)).trans hR.2.2.2.2.2.2.2.2.2.2.2.2.2.2.2.2)⟩
  have sk1 := hs.trans gsk1
  refine go_iconst (v := 0) dRef_takeRows_5 (by decide) ?_
  refine go_istore_n dRef_takeRows_6 ?_
  exact go_at (l_Ref_takeRw (g := upd g 39 1) (S2 := rwS p a l S) (a2 := a + 12 + l) (P := wAs (fun i => p.1 (a + 8 + i)) 0 l S.2.1) hb (fun f hA => hG.rws h8 h5 hB (by omega) hA) trivial hp hf hl l 0 S.2.1 (A 14) _ _ (by omega) (by have := hG.2.2.2.2.2.2.1.2.2; omega) (RfA.g35 hG.2.2.1.1 hRk1) hG.2.2.1.2.1 sk1 rfl) rfl rfl rfl rfl
