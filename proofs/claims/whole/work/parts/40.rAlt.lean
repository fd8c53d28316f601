/-! ===== the reference: alter (by wip/whole/gen_rAlt.py) ===== -/
def enN (p : aRow) (a : Nat) : Int32 := if p.2 < a + 12 then -1 else if fr p.1 a < 0 ∨ 255 < fr p.1 a ∨ p.2 < a + 12 + (fr p.1 a).toNatClampNeg then -1 else nI (a + 12 + (fr p.1 a).toNatClampNeg)
theorem enN_no {p : aRow} {i a : Nat} (h : enN p a = -1) (hp : p.2 ≤ 2000 := by omega) (ha : a ≤ 4000 := by omega) : i < a ∨ p.2 < a + 12 ∨ ¬ (0 ≤ bN4 p.1 p.2 (nI a) ∧ bN4 p.1 p.2 (nI a) ≤ 255) ∨ p.2 < a + 12 + (bN4 p.1 p.2 (nI a)).toNatClampNeg := by
  by_cases e : p.2 < a + 12
  · exact Or.inr (Or.inl e)
  · rw [enN, if_neg e] at h
    rw [bN4_n (by omega) (by omega)]
    by_cases e2 : fr p.1 a < 0 ∨ 255 < fr p.1 a ∨ p.2 < a + 12 + (fr p.1 a).toNatClampNeg
    · rcases e2 with q | q | q
      · exact Or.inr (Or.inr (Or.inl fun x => absurd x.1 (Int32.not_le.mpr q)))
      · exact Or.inr (Or.inr (Or.inl fun x => absurd x.2 (Int32.not_le.mpr q)))
      · exact Or.inr (Or.inr (Or.inr q))
    · rw [if_neg e2] at h
      have q : ¬ p.2 < a + 12 + (fr p.1 a).toNatClampNeg := fun q => e2 (Or.inr (Or.inr q))
      have q2 := nI_pos' (n := a + 12 + (fr p.1 a).toNatClampNeg) (by omega)
      rw [h] at q2
      exact absurd q2 (by decide)
theorem enN_yes {p : aRow} {a : Nat} (h : ¬ enN p a = -1) : ∃ l, l ≤ 255 ∧ fr p.1 a = nI l ∧ a + 12 + l ≤ p.2 ∧ enN p a = nI (a + 12 + l) := by
  unfold enN at h ⊢
  by_cases e : p.2 < a + 12
  · rw [if_pos e] at h; exact absurd rfl h
  · rw [if_neg e] at h ⊢
    by_cases e2 : fr p.1 a < 0 ∨ 255 < fr p.1 a ∨ p.2 < a + 12 + (fr p.1 a).toNatClampNeg
    · rw [if_pos e2] at h; exact absurd rfl h
    · rw [if_neg e2]
      obtain ⟨l, hl, el⟩ := len_ex (x := fr p.1 a) ⟨Int32.not_lt.mp fun q => e2 (Or.inl q), Int32.not_lt.mp fun q => e2 (Or.inr (Or.inl q))⟩
      rw [el, nI_clamp (by omega)] at e2 ⊢
      exact ⟨l, hl, rfl, by omega, rfl⟩
theorem al_sum {p : aRow} {f : Nat → Int32} {a l : Nat} (hf : Ag p.2 f p.1) (hp : p.2 ≤ 8192) (hl : l ≤ 255) (h : a + 12 + l ≤ p.2) : crR f (a + 12 + l - 4 - (a + 4)) (a + 4) (-1) ^^^ (-1) = wSum p (a + 4) (l + 4) := by
  unfold wSum
  rw [crR_b hp _ _ _ (by omega), show a + 12 + l - 4 - (a + 4) = l + 4 by omega, crR_ag hf _ _ _ (by omega)]
theorem fr_ag {f g : Nat → Int32} {c a : Nat} (h : Ag c f g) (ha : a + 3 < c) : fr f a = fr g a := by
  unfold fr
  rw [h a (by omega), h (a + 1) (by omega), h (a + 2) (by omega), h (a + 3) (by omega)]
set_option maxHeartbeats 4000000 in
theorem r_endOf {E : pmEv} {h : pmH} {z : Option Nat} {m : Nat} {g : Nat → Int32} {A : Nat → Nat → Int32} {p : aRow} {a : Nat} (ha : a ≤ 4000) (hg32 : g 32 = nI p.2) (hA13 : Ag p.2 (A 13) p.1) (hN : p.2 ≤ 2000) (hR : RfA h m g A) : Call E mRef_endOf [.ref m, .int (nI a)] h z 0 0 (Ret (some (.int (enN p a))) (h, z, false)) := by
  refine call_of (L := [some (.ref m), some (.int (nI a)), none]) ok_mRef_endOf (Nat.le_of_ble_eq_true rfl) ?_
  refine go_aload_n dRef_endOf_0 rfl ?_
  refine go_getf dRef_endOf_1 qf_Ref_196 hR.1 rfl ?_
  refine go_top (y := nI p.2) (by exact hg32) ?_
  refine go_iload_n dRef_endOf_4 rfl ?_
  refine go_isub dRef_endOf_5 ?_
  refine go_bipush (v := 12) dRef_endOf_6 (by decide) ?_
  refine go_icmp_ge (tgt := 13) dRef_endOf_8 (fun c1 => ?_) (fun c1 => ?_)
  · have f1 := (chunk_n (c := p.2) (p := a) (l := 0) (by omega) (by omega) (by omega)).mp c1
    refine go_aload_n dRef_endOf_13 rfl ?_
    refine go_getf dRef_endOf_14 qf_Ref_49 hR.1 rfl ?_
    refine go_iload_n dRef_endOf_17 rfl ?_
    refine go_statP dRef_endOf_18 ok_mRef_four st_mRef_four qm_Ref_199 (r_four (N := 2000) (f := A 13) (j := a) (by omega) (by omega) hR.2.2.2.2.2.2.2.2.2.2.2.2.2.2.1) ?_ (hnp := np_mRef_four)
    refine go_top (y := fr p.1 a) (by exact fr_ag hA13 (by omega)) ?_
    refine go_istore_n dRef_endOf_21 ?_
    refine go_iload_n dRef_endOf_22 rfl ?_
    refine go_if_lt (tgt := 46) dRef_endOf_23 (fun c2 => ?_) (fun c2 => ?_)
    · refine go_iconst (v := -1) dRef_endOf_46 (by decide) ?_
      refine go_goto (tgt := 56) dRef_endOf_47 ?_
      skip
      refine go_iret dRef_endOf_56 rfl rfl ?_ (Nat.le_of_ble_eq_true rfl) (Nat.le_of_ble_eq_true rfl)
      exact ret_e (by rw [enN, if_neg (Nat.not_lt.mpr f1), if_pos (Or.inl c2)])
    · refine go_iload_n dRef_endOf_26 rfl ?_
      refine go_sipush (v := 255) dRef_endOf_27 (by decide) ?_
      refine go_icmp_gt (tgt := 46) dRef_endOf_30 (fun c3 => ?_) (fun c3 => ?_)
      · refine go_iconst (v := -1) dRef_endOf_46 (by decide) ?_
        refine go_goto (tgt := 56) dRef_endOf_47 ?_
        skip
        refine go_iret dRef_endOf_56 rfl rfl ?_ (Nat.le_of_ble_eq_true rfl) (Nat.le_of_ble_eq_true rfl)
        exact ret_e (by rw [enN, if_neg (Nat.not_lt.mpr f1), if_pos (Or.inr (Or.inl c3))])
      · obtain ⟨l, hl, el⟩ := len_ex (x := fr p.1 a) ⟨Int32.not_lt.mp c2, Int32.not_lt.mp c3⟩
        refine go_aload_n dRef_endOf_33 rfl ?_
        refine go_getf dRef_endOf_34 qf_Ref_196 hR.1 rfl ?_
        refine go_top (y := nI p.2) (by exact hg32) ?_
        refine go_iload_n dRef_endOf_37 rfl ?_
        refine go_isub dRef_endOf_38 ?_
        refine go_bipush (v := 12) dRef_endOf_39 (by decide) ?_
        refine go_iload_n dRef_endOf_41 rfl ?_
        refine go_iadd dRef_endOf_42 ?_
        refine go_top (y := 12 + nI l) (by rw [el]) ?_
        refine go_icmp_ge (tgt := 50) dRef_endOf_43 (fun c4 => ?_) (fun c4 => ?_)
        · refine go_iload_n dRef_endOf_50 rfl ?_
          refine go_bipush (v := 12) dRef_endOf_51 (by decide) ?_
          refine go_iadd dRef_endOf_53 ?_
          refine go_iload_n dRef_endOf_54 rfl ?_
          refine go_iadd dRef_endOf_55 ?_
          refine go_top (y := nI (a + 12 + l)) (by rw [el, show (12 : Int32) = nI 12 from rfl, nI_add, nI_add]) ?_
          refine go_iret dRef_endOf_56 rfl rfl ?_ (Nat.le_of_ble_eq_true rfl) (Nat.le_of_ble_eq_true rfl)
          exact ret_e (by rw [enN, if_neg (Nat.not_lt.mpr f1), if_neg (fun q => q.elim c2 (fun q => q.elim c3 (fun q => by rw [el, nI_clamp (by omega)] at q; have := (chunk_n (c := p.2) (p := a) (l := l) (by omega) (by omega) (by omega)).mp c4; omega))), el, nI_clamp (by omega)])
        · refine go_iconst (v := -1) dRef_endOf_46 (by decide) ?_
          refine go_goto (tgt := 56) dRef_endOf_47 ?_
          skip
          refine go_iret dRef_endOf_56 rfl rfl ?_ (Nat.le_of_ble_eq_true rfl) (Nat.le_of_ble_eq_true rfl)
          exact ret_e (by rw [enN, if_neg (Nat.not_lt.mpr f1), if_pos (Or.inr (Or.inr (by rw [el, nI_clamp (by omega)]; exact Nat.not_le.mp fun q => c4 ((chunk_n (c := p.2) (p := a) (l := l) (by omega) (by omega) (by omega)).mpr q))))])
  · refine go_iconst (v := -1) dRef_endOf_11 (by decide) ?_
    refine go_iret dRef_endOf_12 rfl rfl ?_ (Nat.le_of_ble_eq_true rfl) (Nat.le_of_ble_eq_true rfl)
    exact ret_e (by rw [enN, if_pos (Nat.not_le.mp fun q => c1 ((chunk_n (c := p.2) (p := a) (l := 0) (by omega) (by omega) (by omega)).mpr (by omega)))])
set_option maxHeartbeats 4000000 in
theorem l_Ref_alter4 {E : pmEv} {h0 : pmH} {m : Nat} {g : Nat → Int32} {A : Nat → Nat → Int32} {α : aPF} {i : Nat} {b a3 w : Int32} {P : aRow} (hr : RR g A α) (h00 : g 0 = 0) {a e : Nat} {x : Int32} (he : 4 ≤ e ∧ e ≤ 2000) (h32 : g 32 = nI P.2) : ∀ (n : Nat) (k : Nat) (q : aRow) (f : Nat → Int32) (h : pmH) (d : Bool), k + n = 4 → q.2 = P.2 → RfA h m g (uA A 13 f) → Ag q.2 f q.1 → Sm h0 h m 17 → P = wT x (e - 4) n k q → Go E (mRef_alter, h0, 0, 0) 135 [some (.ref m), some (.int (nI i)), some (.int b), some (.int a3), some (.int w), some (.int (nI a)), some (.int (nI e)), some (.int x), some (.int (nI (k)))] [] (h, none, d) 0 0 (RetR m h0 [0, 2, 1] (some (.int 0)) (.inl (some (.int w)), (α.1, α.2.1, P, α.2.2.2))) := by
  intro n
  induction n with
  | zero =>
    intro k q f h d hk hq2 hR hf hs hP
    refine go_iload dRef_alter_135 rfl ?_
    refine go_iconst (v := 4) dRef_alter_137 (by decide) ?_
    refine go_icmp_ge (tgt := 174) dRef_alter_138 (fun c1 => ?_) (fun c1 => ?_)
    · refine go_iload dRef_alter_174 rfl ?_
      refine go_iret dRef_alter_176 rfl rfl ?_ (Nat.le_of_ble_eq_true rfl) (Nat.le_of_ble_eq_true rfl)
      rw [show P = q from hP]
      exact retR_ok (β := (α.1, α.2.1, q, α.2.2.2)) rfl hR ⟨hr.1, hr.2.1, ⟨by rw [hq2]; exact h32, hf⟩, hr.2.2.2⟩ h00 hs
    · exact absurd (nI_le (a := 4) (b := k) (by omega) (by omega)) c1
  | succ n ih =>
    intro k q f h d hk hq2 hR hf hs hP
    refine go_iload dRef_alter_135 rfl ?_
    refine go_iconst (v := 4) dRef_alter_137 (by decide) ?_
    refine go_icmp_ge (tgt := 174) dRef_alter_138 (fun c1 => ?_) (fun c1 => ?_)
    · exact absurd c1 (nI_ge (a := k) (b := 4) (by omega) (by omega))
    · refine go_aload_n dRef_alter_141 rfl ?_
      refine go_getf dRef_alter_142 qf_Ref_49 hR.1 rfl ?_
      refine go_iload dRef_alter_145 rfl ?_
      refine go_iconst (v := 4) dRef_alter_147 (by decide) ?_
      refine go_isub dRef_alter_148 ?_
      refine go_iload dRef_alter_149 rfl ?_
      refine go_iadd dRef_alter_151 ?_
      refine go_top (y := nI (e - 4 + k)) (by rw [show (4 : Int32) = nI 4 from rfl, pk_sub he.1, nI_add]) ?_
      refine go_iload dRef_alter_152 rfl ?_
      refine go_bipush (v := 24) dRef_alter_154 (by decide) ?_
      refine go_bipush (v := 8) dRef_alter_156 (by decide) ?_
      refine go_iload dRef_alter_158 rfl ?_
      refine go_imul dRef_alter_160 ?_
      refine go_isub dRef_alter_161 ?_
      refine go_ishr dRef_alter_162 ?_
      refine go_sipush (v := 255) dRef_alter_163 (by decide) ?_
      refine go_iand dRef_alter_166 ?_
      refine go_iast dRef_alter_167 hR.2.2.2.2.2.2.2.2.2.2.2.2.2.2.1 (by exact vp_in_nI (by omega) (by omega)) (nI_clamp (by omega)) ?_
      refine go_iinc dRef_alter_168 rfl (congrArg (_ + ·) lit1) ?_
      refine go_goto (tgt := 135) dRef_alter_171 ?_
      refine go_nm (fun hnk1 enk1 => ?_)
      have gsk1 : Sm h hnk1 m 17 := by rw [enk1]; exact (Sm.put' (Sm.refl _ _ _) _ (by omega) (by omega))
      have hRk1 : RfA hnk1 m (g) (uA A 13 (upd f (e - 4 + k) (tnB x k))) := ⟨(congrFun enk1 m).trans ((pmU_n _ _ (by omega)).trans hR.1), (congrFun enk1 (m + 1)).trans ((pmU_n _ _ (by omega)).trans hR.2.1), (congrFun enk1 (m + 2)).trans ((pmU_n _ _ (by omega)).trans hR.2.2.1), (congrFun enk1 (m + 3)).trans ((pmU_n _ _ (by omega)).trans hR.2.2.2.1), (congrFun enk1 (m + 4)).trans ((pmU_n _ _ (by omega)).trans hR.2.2.2.2.1), (congrFun enk1 (m + 5)).trans ((pmU_n _ _ (by omega)).trans hR.2.2.2.2.2.1), (congrFun enk1 (m + 6)).trans ((pmU_n _ _ (by omega)).trans hR.2.2.2.2.2.2.1), (congrFun enk1 (m + 7)).trans ((pmU_n _ _ (by omega)).trans hR.2.2.2.2.2.2.2.1), (congrFun enk1 (m + 8)).trans ((pmU_n _ _ (by omega)).trans hR.2.2.2.2.2.2.2.2.1), (congrFun enk1 (m + 9)).trans ((pmU_n _ _ (by omega)).trans hR.2.2.2.2.2.2.2.2.2.1), (congrFun enk1 (m + 10)).trans ((pmU_n _ _ (by omega)).trans hR.2.2.2.2.2.2.2.2.2.2.1), (congrFun enk1 (m + 11)).trans ((pmU_n _ _ (by omega)).trans hR.2.2.2.2.2.2.2.2.2.2.2.1), (congrFun enk1 (m + 12)).trans ((pmU_n _ _ (by omega)).trans hR.2.2.2.2.2.2.2.2.2.2.2.2.1), (congrFun enk1 (m + 13)).trans ((pmU_n _ _ (by omega)).trans hR.2.2.2.2.2.2.2.2.2.2.2.2.2.1), (congrFun enk1 (m + 14)).trans (pmU_s _ _ _), (congrFun enk1 (m + 15)).trans ((pmU_n _ _ (by omega)).trans hR.2.2.2.2.2.2.2.2.2.2.2.2.2.2.2.1), (congrFun enk1 (m + 16)).trans ((pmU_n _ _ (by omega)).trans hR.2.2.2.2.2.2.2.2.2.2.2.2.2.2.2.2)⟩
      have sk1 := hs.trans gsk1
      exact go_at (ih (k + 1) (wS q (e - 4 + k) (tnB x k)) _ _ _ (by omega) hq2 hRk1 (hf.up _ _) sk1 (by rw [hP, wT])) rfl (by rw [nI_succ k]; rfl) rfl rfl
set_option maxHeartbeats 4000000 in
theorem l_Ref_alter {E : pmEv} {h0 : pmH} {m : Nat} {g : Nat → Int32} {A : Nat → Nat → Int32} {α : aPF} {i : Nat} {b a3 w : Int32} {P : aRow} (hr : RR g A α) (h00 : g 0 = 0) {p : aRow} {f : Nat → Int32} (h32 : g 32 = nI p.2) (hf : Ag p.2 f p.1) (hN : p.2 ≤ 2000) (hip : i < p.2) (hB : AllB p) : ∀ (n : Nat) (a : Nat) (h : pmH) (d : Bool), i < a + n → a ≤ i → RfA h m g (uA A 13 f) → Sm h0 h m 17 → P = mendBy p (mendAt p i n a) → Go E (mRef_alter, h0, 0, 0) 82 [some (.ref m), some (.int (nI i)), some (.int b), some (.int a3), some (.int w), some (.int (nI a)), some (.int (enN p a)), none, none] [] (h, none, d) 0 0 (RetR m h0 [0, 2, 1] (some (.int 0)) (.inl (some (.int w)), (α.1, α.2.1, P, α.2.2.2))) := by
  intro n
  induction n with
  | zero =>
    intro a h d hlt hai hR hs hP
    exact absurd hlt (by omega)
  | succ n ih =>
    intro a h d hlt hai hR hs hP
    refine go_iload dRef_alter_82 rfl ?_
    refine go_iconst (v := -1) dRef_alter_84 (by decide) ?_
    refine go_icmp_eq (tgt := 109) dRef_alter_85 (fun c1 => ?_) (fun c1 => ?_)
    · refine go_iload dRef_alter_109 rfl ?_
      refine go_iconst (v := -1) dRef_alter_111 (by decide) ?_
      refine go_icmp_eq (tgt := 174) dRef_alter_112 (fun c2 => ?_) (fun c2 => ?_)
      · refine go_iload dRef_alter_174 rfl ?_
        refine go_iret dRef_alter_176 rfl rfl ?_ (Nat.le_of_ble_eq_true rfl) (Nat.le_of_ble_eq_true rfl)
        rw [show P = p by rw [hP, mendAt_no (enN_no c1)]; rfl]
        exact retR_ok (β := (α.1, α.2.1, p, α.2.2.2)) rfl hR ⟨hr.1, hr.2.1, ⟨h32, hf⟩, hr.2.2.2⟩ h00 hs
      · exact absurd c1 c2
    · obtain ⟨l, hl, el, hfit, hE⟩ := enN_yes c1
      refine go_iload dRef_alter_88 rfl ?_
      refine go_iload_n dRef_alter_90 rfl ?_
      refine go_icmp_gt (tgt := 109) dRef_alter_91 (fun c2 => ?_) (fun c2 => ?_)
      · refine go_iload dRef_alter_109 rfl ?_
        refine go_iconst (v := -1) dRef_alter_111 (by decide) ?_
        refine go_icmp_eq (tgt := 174) dRef_alter_112 (fun c3 => ?_) (fun c3 => ?_)
        · refine go_iload dRef_alter_174 rfl ?_
          refine go_iret dRef_alter_176 rfl rfl ?_ (Nat.le_of_ble_eq_true rfl) (Nat.le_of_ble_eq_true rfl)
          exact absurd c3 c1
        · have h4 : i < a + 12 + l := (nI_ltI (by omega) (by omega)).mp (by rw [← hE]; exact c2)
          refine go_aload_n dRef_alter_115 rfl ?_
          refine go_getf dRef_alter_116 qf_Ref_49 hR.1 rfl ?_
          refine go_iload dRef_alter_119 rfl ?_
          refine go_iconst (v := 4) dRef_alter_121 (by decide) ?_
          refine go_iadd dRef_alter_122 ?_
          refine go_top (y := nI (a + 4)) (by exact nI_a4 _) ?_
          refine go_iload dRef_alter_123 rfl ?_
          refine go_iconst (v := 4) dRef_alter_125 (by decide) ?_
          refine go_isub dRef_alter_126 ?_
          refine go_top (y := nI (a + 12 + l - 4)) (by rw [hE, show (4 : Int32) = nI 4 from rfl, pk_sub (by omega)]) ?_
          refine go_statP dRef_alter_127 ok_mRef_sumOf st_mRef_sumOf qm_Ref_160 (r_sumOf (N := 2000) (f := f) (i0 := a + 4) (e := a + 12 + l - 4) (by omega) (by omega) (by omega) (fun j _ h2 => by rw [hf j (by omega)]; exact hB j (by omega)) hR.2.2.2.2.2.2.2.2.2.2.2.2.2.2.1) ?_ (hnp := np_mRef_sumOf)
          refine go_top (y := wSum p (a + 4) (l + 4)) (by exact al_sum hf (by omega) (by omega) (by omega)) ?_
          refine go_istore dRef_alter_130 ?_
          refine go_iconst (v := 0) dRef_alter_132 (by decide) ?_
          refine go_istore dRef_alter_133 ?_
          have hPq : P = wS4 p (a + 8 + l) (wSum p (a + 4) (l + 4)) := by rw [hP, mendAt_yes hai (by rw [bN4_n (by omega) (by omega)]; exact el) hl hfit h4]; rfl
          exact go_at (l_Ref_alter4 (a := a) hr h00 (e := a + 12 + l) (x := wSum p (a + 4) (l + 4)) (by omega) (by rw [hPq]; exact h32) 4 0 p f _ _ (by omega) (by rw [hPq]; rfl) hR hf hs (by rw [hPq, show a + 12 + l - 4 = a + 8 + l by omega, wT_4])) rfl (by rw [hE]; rfl) rfl rfl
      · refine go_iload dRef_alter_94 rfl ?_
        refine go_istore dRef_alter_96 ?_
        refine go_aload_n dRef_alter_98 rfl ?_
        refine go_iload dRef_alter_99 rfl ?_
        refine go_top (y := nI (a + 12 + l)) (by exact hE) ?_
        refine go_virtP dRef_alter_101 ok_mRef_endOf im_mRef_endOf se_mRef_endOf qm_Ref_203 hR.1 (r_endOf (p := p) (a := a + 12 + l) (by omega) h32 hf hN hR) ?_ (hnp := np_mRef_endOf)
        refine go_istore dRef_alter_104 ?_
        refine go_goto (tgt := 82) dRef_alter_106 ?_
        have h4 : ¬ i < a + 12 + l := fun q => c2 (by rw [hE]; exact nI_lt q (by omega))
        exact go_at (ih (a + 12 + l) h d (by omega) (by omega) hR hs (by rw [hP, mendAt_go hai (by rw [bN4_n (by omega) (by omega)]; exact el) hl hfit h4])) rfl (by rw [hE]; rfl) rfl rfl
set_option maxHeartbeats 4000000 in
theorem l_Ref_alter0 {E : pmEv} {h0 h : pmH} {d : Bool} {m : Nat} {g : Nat → Int32} {A : Nat → Nat → Int32} {α : aPF} {i : Nat} {b a3 w : Int32} {P : aRow} (hr : RR g A α) (h00 : g 0 = 0) {a : Nat} {f : Nat → Int32} (h32 : g 32 = nI P.2) (hf : Ag P.2 f P.1) (hR : RfA h m g (uA A 13 f)) (hs : Sm h0 h m 17) : Go E (mRef_alter, h0, 0, 0) 82 [some (.ref m), some (.int (nI i)), some (.int b), some (.int a3), some (.int w), some (.int (nI a)), some (.int (-1)), none, none] [] (h, none, d) 0 0 (RetR m h0 [0, 2, 1] (some (.int 0)) (.inl (some (.int w)), (α.1, α.2.1, P, α.2.2.2))) := by
  refine go_iload dRef_alter_82 rfl ?_
  refine go_iconst (v := -1) dRef_alter_84 (by decide) ?_
  refine go_icmp_eq (tgt := 109) dRef_alter_85 (fun c1 => ?_) (fun c1 => ?_)
  · refine go_iload dRef_alter_109 rfl ?_
    refine go_iconst (v := -1) dRef_alter_111 (by decide) ?_
    refine go_icmp_eq (tgt := 174) dRef_alter_112 (fun c2 => ?_) (fun c2 => ?_)
    · refine go_iload dRef_alter_174 rfl ?_
      refine go_iret dRef_alter_176 rfl rfl ?_ (Nat.le_of_ble_eq_true rfl) (Nat.le_of_ble_eq_true rfl)
      exact retR_ok (β := (α.1, α.2.1, P, α.2.2.2)) rfl hR ⟨hr.1, hr.2.1, ⟨h32, hf⟩, hr.2.2.2⟩ h00 hs
    · exact absurd rfl c2
  · exact absurd rfl c1
set_option maxHeartbeats 4000000 in
theorem r_alter {E : pmEv} {h : pmH} {m : Nat} {g : Nat → Int32} {A : Nat → Nat → Int32} {α : aPF} {a1 a2 a3 : Int32} (hR : RfA h m g A) (hr : RR g A α) (hv : IvA α) : Call E mRef_alter [.ref m, .int a1, .int a2, .int a3] h none 0 0 (RetR m h [0, 2, 1] (some (.int 0)) (alF α a1 a2 a3)) := by
  have hs : Sm h h m 17 := Sm.refl _ _ _
  have ho := hr.1
  have ht : g 1 = 0 ↔ ¬ α.1.1 = true := by rw [ho.1]; exact bI_0
  have hw15 := hv.2.1.1
  have hf20 := hv.2.2.1.1
  have hw := hr.2.1
  have hf := hr.2.2.1
  refine call_of (L := [some (.ref m), some (.int a1), some (.int a2), some (.int a3), none, none, none, none, none]) ok_mRef_alter (Nat.le_of_ble_eq_true rfl) ?_
  refine go_aload_n dRef_alter_0 rfl ?_
  refine go_iload_n dRef_alter_1 rfl ?_
  refine go_if_lt (tgt := 13) dRef_alter_2 (fun c1 => ?_) (fun c1 => ?_)
  · refine go_iconst (v := 1) dRef_alter_13 (by decide) ?_
    refine go_goto (tgt := 29) dRef_alter_14 ?_
    refine go_putf dRef_alter_29 qf_Ref_59 pw_8_0 hR.1 rfl rfl ?_
    refine go_aload_n dRef_alter_32 rfl ?_
    refine go_getf dRef_alter_33 qf_Ref_59 (pmU_s _ _ _) rfl ?_
    refine go_if_le (tgt := 41) dRef_alter_36 (fun cc => absurd cc (by decide)) (fun _ => ?_)
    refine go_nm (fun hnk1 enk1 => ?_)
    have gsk1 : Sm h hnk1 m 17 := by rw [enk1]; exact (Sm.put' (Sm.refl _ _ _) _ (by omega) (by omega))
    have hRk1 : RfA hnk1 m (upd g 0 1) (A) := ⟨(congrFun enk1 m).trans (pmU_s _ _ _), (congrFun enk1 (m + 1)).trans ((pmU_n _ _ (by omega)).trans hR.2.1), (congrFun enk1 (m + 2)).trans ((pmU_n _ _ (by omega)).trans hR.2.2.1), (congrFun enk1 (m + 3)).trans ((pmU_n _ _ (by omega)).trans hR.2.2.2.1), (congrFun enk1 (m + 4)).trans ((pmU_n _ _ (by omega)).trans hR.2.2.2.2.1), (congrFun enk1 (m + 5)).trans ((pmU_n _ _ (by omega)).trans hR.2.2.2.2.2.1), (congrFun enk1 (m + 6)).trans ((pmU_n _ _ (by omega)).trans hR.2.2.2.2.2.2.1), (congrFun enk1 (m + 7)).trans ((pmU_n _ _ (by omega)).trans hR.2.2.2.2.2.2.2.1), (congrFun enk1 (m + 8)).trans ((pmU_n _ _ (by omega)).trans hR.2.2.2.2.2.2.2.2.1), (congrFun enk1 (m + 9)).trans ((pmU_n _ _ (by omega)).trans hR.2.2.2.2.2.2.2.2.2.1), (congrFun enk1 (m + 10)).trans ((pmU_n _ _ (by omega)).trans hR.2.2.2.2.2.2.2.2.2.2.1), (congrFun enk1 (m + 11)).trans ((pmU_n _ _ (by omega)).trans hR.2.2.2.2.2.2.2.2.2.2.2.1), (congrFun enk1 (m + 12)).trans ((pmU_n _ _ (by omega)).trans hR.2.2.2.2.2.2.2.2.2.2.2.2.1), (congrFun enk1 (m + 13)).trans ((pmU_n _ _ (by omega)).trans hR.2.2.2.2.2.2.2.2.2.2.2.2.2.1), (congrFun enk1 (m + 14)).trans ((pmU_n _ _ (by omega)).trans hR.2.2.2.2.2.2.2.2.2.2.2.2.2.2.1), (congrFun enk1 (m + 15)).trans ((pmU_n _ _ (by omega)).trans hR.2.2.2.2.2.2.2.2.2.2.2.2.2.2.2.1), (congrFun enk1 (m + 16)).trans ((pmU_n _ _ (by omega)).trans hR.2.2.2.2.2.2.2.2.2.2.2.2.2.2.2.2)⟩
    have sk1 := hs.trans gsk1
    refine go_iconst (v := 0) dRef_alter_39 (by decide) ?_
    refine go_iret dRef_alter_40 rfl rfl ?_ (Nat.le_of_ble_eq_true rfl) (Nat.le_of_ble_eq_true rfl)
    exact retR_no (by rw [alF, if_pos (fun q => absurd q.1 (Int32.not_le.mpr c1))]) hRk1 hr rfl sk1
  · refine go_iload_n dRef_alter_5 rfl ?_
    refine go_aload_n dRef_alter_6 rfl ?_
    refine go_getf dRef_alter_7 qf_Ref_196 hR.1 rfl ?_
    refine go_top (y := nI α.2.2.1.2) (by exact hf.1) ?_
    refine go_icmp_lt (tgt := 17) dRef_alter_10 (fun c2 => ?_) (fun c2 => ?_)
    · refine go_iload_n dRef_alter_17 rfl ?_
      refine go_statP dRef_alter_18 ok_mRef_isByte st_mRef_isByte qm_Ref_89 r_isByte ?_ (hnp := np_mRef_isByte)
      refine go_ifne_b (tgt := 28) dRef_alter_21 (fun c3 => ?_) (fun c3 => ?_)
      · refine go_iconst (v := 0) dRef_alter_28 (by decide) ?_
        refine go_putf dRef_alter_29 qf_Ref_59 pw_8_0 hR.1 rfl rfl ?_
        refine go_aload_n dRef_alter_32 rfl ?_
        refine go_getf dRef_alter_33 qf_Ref_59 (pmU_s _ _ _) rfl ?_
        refine go_if_le (tgt := 41) dRef_alter_36 (fun _ => ?_) (fun cc => absurd (by decide) cc)
        obtain ⟨j5, hj5, rfl⟩ := has_ex (by omega) ⟨Int32.not_lt.mp c1, c2⟩
        refine go_aload_n dRef_alter_41 rfl ?_
        refine go_getf dRef_alter_42 qf_Ref_49 (pmU_s _ _ _) rfl ?_
        refine go_iload_n dRef_alter_45 rfl ?_
        refine go_iald dRef_alter_46 ((pmU_n _ _ (by omega)).trans hR.2.2.2.2.2.2.2.2.2.2.2.2.2.2.1) (by exact vp_in_nI (by omega) (by omega)) (congrArg _ (nI_clamp (by omega))) ?_
        refine go_istore dRef_alter_47 ?_
        refine go_aload_n dRef_alter_49 rfl ?_
        refine go_getf dRef_alter_50 qf_Ref_49 (pmU_s _ _ _) rfl ?_
        refine go_iload_n dRef_alter_53 rfl ?_
        refine go_iload_n dRef_alter_54 rfl ?_
        refine go_iast dRef_alter_55 ((pmU_n _ _ (by omega)).trans hR.2.2.2.2.2.2.2.2.2.2.2.2.2.2.1) (by exact vp_in_nI (by omega) (by omega)) (nI_clamp (by omega)) ?_
        refine go_nm (fun hnk2 enk2 => ?_)
        have gsk2 : Sm h hnk2 m 17 := by rw [enk2]; exact (Sm.put' (Sm.put' (Sm.refl _ _ _) _ (by omega) (by omega)) _ (by omega) (by omega))
        have hRk2 : RfA hnk2 m (upd g 0 0) (uA A 13 (upd (A 13) j5 a2)) := ⟨(congrFun enk2 m).trans ((pmU_n _ _ (by omega)).trans (pmU_s _ _ _)), (congrFun enk2 (m + 1)).trans ((pmU_n _ _ (by omega)).trans ((pmU_n _ _ (by omega)).trans hR.2.1)), (congrFun enk2 (m + 2)).trans ((pmU_n _ _ (by omega)).trans ((pmU_n _ _ (by omega)).trans hR.2.2.1)), (congrFun enk2 (m + 3)).trans ((pmU_n _ _ (by omega)).trans ((pmU_n _ _ (by omega)).trans hR.2.2.2.1)), (congrFun enk2 (m + 4)).trans ((pmU_n _ _ (by omega)).trans ((pmU_n _ _ (by omega)).trans hR.2.2.2.2.1)), (congrFun enk2 (m + 5)).trans ((pmU_n _ _ (by omega)).trans ((pmU_n _ _ (by omega)).trans hR.2.2.2.2.2.1)), (congrFun enk2 (m + 6)).trans ((pmU_n _ _ (by omega)).trans ((pmU_n _ _ (by omega)).trans hR.2.2.2.2.2.2.1)), (congrFun enk2 (m + 7)).trans ((pmU_n _ _ (by omega)).trans ((pmU_n _ _ (by omega)).trans hR.2.2.2.2.2.2.2.1)), (congrFun enk2 (m + 8)).trans ((pmU_n _ _ (by omega)).trans ((pmU_n _ _ (by omega)).trans hR.2.2.2.2.2.2.2.2.1)), (congrFun enk2 (m + 9)).trans ((pmU_n _ _ (by omega)).trans ((pmU_n _ _ (by omega)).trans hR.2.2.2.2.2.2.2.2.2.1)), (congrFun enk2 (m + 10)).trans ((pmU_n _ _ (by omega)).trans ((pmU_n _ _ (by omega)).trans hR.2.2.2.2.2.2.2.2.2.2.1)), (congrFun enk2 (m + 11)).trans ((pmU_n _ _ (by omega)).trans ((pmU_n _ _ (by omega)).trans hR.2.2.2.2.2.2.2.2.2.2.2.1)), (congrFun enk2 (m + 12)).trans ((pmU_n _ _ (by omega)).trans ((pmU_n _ _ (by omega)).trans hR.2.2.2.2.2.2.2.2.2.2.2.2.1)), (congrFun enk2 (m + 13)).trans ((pmU_n _ _ (by omega)).trans ((pmU_n _ _ (by omega)).trans hR.2.2.2.2.2.2.2.2.2.2.2.2.2.1)), (congrFun enk2 (m + 14)).trans (pmU_s _ _ _), (congrFun enk2 (m + 15)).trans ((pmU_n _ _ (by omega)).trans ((pmU_n _ _ (by omega)).trans hR.2.2.2.2.2.2.2.2.2.2.2.2.2.2.2.1)), (congrFun enk2 (m + 16)).trans ((pmU_n _ _ (by omega)).trans ((pmU_n _ _ (by omega)).trans hR.2.2.2.2.2.2.2.2.2.2.2.2.2.2.2.2))⟩
        have sk2 := hs.trans gsk2
        refine go_bipush (v := 8) dRef_alter_56 (by decide) ?_
        refine go_istore dRef_alter_58 ?_
        refine go_iload_n dRef_alter_60 rfl ?_
        refine go_bipush (v := 8) dRef_alter_61 (by decide) ?_
        refine go_icmp_lt (tgt := 70) dRef_alter_63 (fun c4 => ?_) (fun c4 => ?_)
        · refine go_iconst (v := -1) dRef_alter_70 (by decide) ?_
          refine go_goto (tgt := 80) dRef_alter_71 ?_
          refine go_istore dRef_alter_80 ?_
          have hj8 : j5 < 8 := (nI_ltI (b := 8) (by omega) (by omega)).mp c4
          exact (l_Ref_alter0 (g := upd g 0 0) (α := α) (P := (wS α.2.2.1 j5 a2)) (a := 8) hr rfl hf.1 (hf.2.up _ _) hRk2 sk2).mono fun o S q => by
            rw [alF, if_neg (fun q => q ⟨Int32.not_lt.mp c1, c2⟩), if_neg (fun q => q c3), nI_clamp (n := j5) (by omega)]
            by_cases e : a3 = 0
            · rw [if_pos e, ← hf.2 j5 hj5]; exact q
            · rw [if_neg e, ← hf.2 j5 hj5, mendAt_no (Or.inl hj8)]; exact q
        · refine go_iload_n dRef_alter_66 rfl ?_
          refine go_if_ne (tgt := 74) dRef_alter_67 (fun c5 => ?_) (fun c5 => ?_)
          · refine go_aload_n dRef_alter_74 rfl ?_
            refine go_iload dRef_alter_75 rfl ?_
            refine go_virtP dRef_alter_77 ok_mRef_endOf im_mRef_endOf se_mRef_endOf qm_Ref_203 hRk2.1 (r_endOf (g := upd g 0 0) (A := uA A 13 (upd (A 13) j5 a2)) (p := wS α.2.2.1 j5 a2) (a := 8) (by omega) hf.1 (hf.2.up _ _) hf20 hRk2) ?_ (hnp := np_mRef_endOf)
            refine go_istore dRef_alter_80 ?_
            have hj8 : 8 ≤ j5 := Nat.not_lt.mp fun q => c4 (nI_lt (b := 8) q (by omega))
            exact (l_Ref_alter (g := upd g 0 0) (α := α) (p := (wS α.2.2.1 j5 a2)) hr rfl hf.1 (hf.2.up _ _) hf20 hj5 (AllB.s hv.2.2.1.2 c3) 4001 8 _ _ (show j5 < 8 + 4001 by omega) hj8 hRk2 sk2 rfl).mono fun o S q => by
              rw [alF, if_neg (fun q => q ⟨Int32.not_lt.mp c1, c2⟩), if_neg (fun q => q c3), nI_clamp (n := j5) (by omega), if_neg c5, ← hf.2 j5 hj5]
              exact q
          · refine go_iconst (v := -1) dRef_alter_70 (by decide) ?_
            refine go_goto (tgt := 80) dRef_alter_71 ?_
            refine go_istore dRef_alter_80 ?_
            exact (l_Ref_alter0 (g := upd g 0 0) (α := α) (P := (wS α.2.2.1 j5 a2)) (a := 8) hr rfl hf.1 (hf.2.up _ _) hRk2 sk2).mono fun o S q => by
              rw [alF, if_neg (fun q => q ⟨Int32.not_lt.mp c1, c2⟩), if_neg (fun q => q c3), nI_clamp (n := j5) (by omega), if_pos c5, ← hf.2 j5 hj5]
              exact q
      · refine go_iconst (v := 2) dRef_alter_24 (by decide) ?_
        refine go_goto (tgt := 29) dRef_alter_25 ?_
        refine go_putf dRef_alter_29 qf_Ref_59 pw_8_0 hR.1 rfl rfl ?_
        refine go_aload_n dRef_alter_32 rfl ?_
        refine go_getf dRef_alter_33 qf_Ref_59 (pmU_s _ _ _) rfl ?_
        refine go_if_le (tgt := 41) dRef_alter_36 (fun cc => absurd cc (by decide)) (fun _ => ?_)
        refine go_nm (fun hnk3 enk3 => ?_)
        have gsk3 : Sm h hnk3 m 17 := by rw [enk3]; exact (Sm.put' (Sm.refl _ _ _) _ (by omega) (by omega))
        have hRk3 : RfA hnk3 m (upd g 0 2) (A) := ⟨(congrFun enk3 m).trans (pmU_s _ _ _), (congrFun enk3 (m + 1)).trans ((pmU_n _ _ (by omega)).trans hR.2.1), (congrFun enk3 (m + 2)).trans ((pmU_n _ _ (by omega)).trans hR.2.2.1), (congrFun enk3 (m + 3)).trans ((pmU_n _ _ (by omega)).trans hR.2.2.2.1), (congrFun enk3 (m + 4)).trans ((pmU_n _ _ (by omega)).trans hR.2.2.2.2.1), (congrFun enk3 (m + 5)).trans ((pmU_n _ _ (by omega)).trans hR.2.2.2.2.2.1), (congrFun enk3 (m + 6)).trans ((pmU_n _ _ (by omega)).trans hR.2.2.2.2.2.2.1), (congrFun enk3 (m + 7)).trans ((pmU_n _ _ (by omega)).trans hR.2.2.2.2.2.2.2.1), (congrFun enk3 (m + 8)).trans ((pmU_n _ _ (by omega)).trans hR.2.2.2.2.2.2.2.2.1), (congrFun enk3 (m + 9)).trans ((pmU_n _ _ (by omega)).trans hR.2.2.2.2.2.2.2.2.2.1), (congrFun enk3 (m + 10)).trans ((pmU_n _ _ (by omega)).trans hR.2.2.2.2.2.2.2.2.2.2.1), (congrFun enk3 (m + 11)).trans ((pmU_n _ _ (by omega)).trans hR.2.2.2.2.2.2.2.2.2.2.2.1), (congrFun enk3 (m + 12)).trans ((pmU_n _ _ (by omega)).trans hR.2.2.2.2.2.2.2.2.2.2.2.2.1), (congrFun enk3 (m + 13)).trans ((pmU_n _ _ (by omega)).trans hR.2.2.2.2.2.2.2.2.2.2.2.2.2.1), (congrFun enk3 (m + 14)).trans ((pmU_n _ _ (by omega)).trans hR.2.2.2.2.2.2.2.2.2.2.2.2.2.2.1), (congrFun enk3 (m + 15)).trans ((pmU_n _ _ (by omega)).trans hR.2.2.2.2.2.2.2.2.2.2.2.2.2.2.2.1), (congrFun enk3 (m + 16)).trans ((pmU_n _ _ (by omega)).trans hR.2.2.2.2.2.2.2.2.2.2.2.2.2.2.2.2)⟩
        have sk3 := hs.trans gsk3
        refine go_iconst (v := 0) dRef_alter_39 (by decide) ?_
        refine go_iret dRef_alter_40 rfl rfl ?_ (Nat.le_of_ble_eq_true rfl) (Nat.le_of_ble_eq_true rfl)
        exact retR_no (by rw [alF, if_neg (fun q => q ⟨Int32.not_lt.mp c1, c2⟩), if_pos c3]) hRk3 hr rfl sk3
    · refine go_iconst (v := 1) dRef_alter_13 (by decide) ?_
      refine go_goto (tgt := 29) dRef_alter_14 ?_
      refine go_putf dRef_alter_29 qf_Ref_59 pw_8_0 hR.1 rfl rfl ?_
      refine go_aload_n dRef_alter_32 rfl ?_
      refine go_getf dRef_alter_33 qf_Ref_59 (pmU_s _ _ _) rfl ?_
      refine go_if_le (tgt := 41) dRef_alter_36 (fun cc => absurd cc (by decide)) (fun _ => ?_)
      refine go_nm (fun hnk4 enk4 => ?_)
      have gsk4 : Sm h hnk4 m 17 := by rw [enk4]; exact (Sm.put' (Sm.refl _ _ _) _ (by omega) (by omega))
      have hRk4 : RfA hnk4 m (upd g 0 1) (A) := ⟨(congrFun enk4 m).trans (pmU_s _ _ _), (congrFun enk4 (m + 1)).trans ((pmU_n _ _ (by omega)).trans hR.2.1), (congrFun enk4 (m + 2)).trans ((pmU_n _ _ (by omega)).trans hR.2.2.1), (congrFun enk4 (m + 3)).trans ((pmU_n _ _ (by omega)).trans hR.2.2.2.1), (congrFun enk4 (m + 4)).trans ((pmU_n _ _ (by omega)).trans hR.2.2.2.2.1), (congrFun enk4 (m + 5)).trans ((pmU_n _ _ (by omega)).trans hR.2.2.2.2.2.1), (congrFun enk4 (m + 6)).trans ((pmU_n _ _ (by omega)).trans hR.2.2.2.2.2.2.1), (congrFun enk4 (m + 7)).trans ((pmU_n _ _ (by omega)).trans hR.2.2.2.2.2.2.2.1), (congrFun enk4 (m + 8)).trans ((pmU_n _ _ (by omega)).trans hR.2.2.2.2.2.2.2.2.1), (congrFun enk4 (m + 9)).trans ((pmU_n _ _ (by omega)).trans hR.2.2.2.2.2.2.2.2.2.1), (congrFun enk4 (m + 10)).trans ((pmU_n _ _ (by omega)).trans hR.2.2.2.2.2.2.2.2.2.2.1), (congrFun enk4 (m + 11)).trans ((pmU_n _ _ (by omega)).trans hR.2.2.2.2.2.2.2.2.2.2.2.1), (congrFun enk4 (m + 12)).trans ((pmU_n _ _ (by omega)).trans hR.2.2.2.2.2.2.2.2.2.2.2.2.1), (congrFun enk4 (m + 13)).trans ((pmU_n _ _ (by omega)).trans hR.2.2.2.2.2.2.2.2.2.2.2.2.2.1), (congrFun enk4 (m + 14)).trans ((pmU_n _ _ (by omega)).trans hR.2.2.2.2.2.2.2.2.2.2.2.2.2.2.1), (congrFun enk4 (m + 15)).trans ((pmU_n _ _ (by omega)).trans hR.2.2.2.2.2.2.2.2.2.2.2.2.2.2.2.1), (congrFun enk4 (m + 16)).trans ((pmU_n _ _ (by omega)).trans hR.2.2.2.2.2.2.2.2.2.2.2.2.2.2.2.2)⟩
      have sk4 := hs.trans gsk4
      refine go_iconst (v := 0) dRef_alter_39 (by decide) ?_
      refine go_iret dRef_alter_40 rfl rfl ?_ (Nat.le_of_ble_eq_true rfl) (Nat.le_of_ble_eq_true rfl)
      exact retR_no (by rw [alF, if_pos (fun q => c2 q.2)]) hRk4 hr rfl sk4
