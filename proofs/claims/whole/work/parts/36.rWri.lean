/-! ===== the reference: writing (by wip/whole/gen_rWri.py) ===== -/
theorem RWr.a0 {h : pmH} {m : Nat} {g : Nat → Int32} {A : Nat → Nat → Int32} {p : aRow} (hW : RWr h m g A p) : h (m + 1) = some (pmI 576 (A 0)) := by
  obtain ⟨f, hR, -⟩ := hW
  exact hR.2.1
theorem RWr.a1 {h : pmH} {m : Nat} {g : Nat → Int32} {A : Nat → Nat → Int32} {p : aRow} (hW : RWr h m g A p) : h (m + 2) = some (pmI 256 (A 1)) := by
  obtain ⟨f, hR, -⟩ := hW
  exact hR.2.2.1
theorem RWr.a2 {h : pmH} {m : Nat} {g : Nat → Int32} {A : Nat → Nat → Int32} {p : aRow} (hW : RWr h m g A p) : h (m + 3) = some (pmI 3 (A 2)) := by
  obtain ⟨f, hR, -⟩ := hW
  exact hR.2.2.2.1
theorem RWr.a3 {h : pmH} {m : Nat} {g : Nat → Int32} {A : Nat → Nat → Int32} {p : aRow} (hW : RWr h m g A p) : h (m + 4) = some (pmI 6 (A 3)) := by
  obtain ⟨f, hR, -⟩ := hW
  exact hR.2.2.2.2.1
theorem RWr.a4 {h : pmH} {m : Nat} {g : Nat → Int32} {A : Nat → Nat → Int32} {p : aRow} (hW : RWr h m g A p) : h (m + 5) = some (pmI 6 (A 4)) := by
  obtain ⟨f, hR, -⟩ := hW
  exact hR.2.2.2.2.2.1
theorem RWr.a5 {h : pmH} {m : Nat} {g : Nat → Int32} {A : Nat → Nat → Int32} {p : aRow} (hW : RWr h m g A p) : h (m + 6) = some (pmI 240 (A 5)) := by
  obtain ⟨f, hR, -⟩ := hW
  exact hR.2.2.2.2.2.2.1
theorem RWr.a6 {h : pmH} {m : Nat} {g : Nat → Int32} {A : Nat → Nat → Int32} {p : aRow} (hW : RWr h m g A p) : h (m + 7) = some (pmI 576 (A 6)) := by
  obtain ⟨f, hR, -⟩ := hW
  exact hR.2.2.2.2.2.2.2.1
theorem RWr.a7 {h : pmH} {m : Nat} {g : Nat → Int32} {A : Nat → Nat → Int32} {p : aRow} (hW : RWr h m g A p) : h (m + 8) = some (pmI 256 (A 7)) := by
  obtain ⟨f, hR, -⟩ := hW
  exact hR.2.2.2.2.2.2.2.2.1
theorem RWr.a8 {h : pmH} {m : Nat} {g : Nat → Int32} {A : Nat → Nat → Int32} {p : aRow} (hW : RWr h m g A p) : h (m + 9) = some (pmI 3 (A 8)) := by
  obtain ⟨f, hR, -⟩ := hW
  exact hR.2.2.2.2.2.2.2.2.2.1
theorem RWr.a9 {h : pmH} {m : Nat} {g : Nat → Int32} {A : Nat → Nat → Int32} {p : aRow} (hW : RWr h m g A p) : h (m + 10) = some (pmI 6 (A 9)) := by
  obtain ⟨f, hR, -⟩ := hW
  exact hR.2.2.2.2.2.2.2.2.2.2.1
theorem RWr.a10 {h : pmH} {m : Nat} {g : Nat → Int32} {A : Nat → Nat → Int32} {p : aRow} (hW : RWr h m g A p) : h (m + 11) = some (pmI 6 (A 10)) := by
  obtain ⟨f, hR, -⟩ := hW
  exact hR.2.2.2.2.2.2.2.2.2.2.2.1
theorem RWr.a11 {h : pmH} {m : Nat} {g : Nat → Int32} {A : Nat → Nat → Int32} {p : aRow} (hW : RWr h m g A p) : h (m + 12) = some (pmI 240 (A 11)) := by
  obtain ⟨f, hR, -⟩ := hW
  exact hR.2.2.2.2.2.2.2.2.2.2.2.2.1
theorem RWr.a13 {h : pmH} {m : Nat} {g : Nat → Int32} {A : Nat → Nat → Int32} {p : aRow} (hW : RWr h m g A p) : h (m + 14) = some (pmI 2000 (A 13)) := by
  obtain ⟨f, hR, -⟩ := hW
  exact hR.2.2.2.2.2.2.2.2.2.2.2.2.2.2.1
theorem RWr.a14 {h : pmH} {m : Nat} {g : Nat → Int32} {A : Nat → Nat → Int32} {p : aRow} (hW : RWr h m g A p) : h (m + 15) = some (pmI 2000 (A 14)) := by
  obtain ⟨f, hR, -⟩ := hW
  exact hR.2.2.2.2.2.2.2.2.2.2.2.2.2.2.2.1
theorem RWr.a15 {h : pmH} {m : Nat} {g : Nat → Int32} {A : Nat → Nat → Int32} {p : aRow} (hW : RWr h m g A p) : h (m + 16) = some (pmB 3 (A 15)) := by
  obtain ⟨f, hR, -⟩ := hW
  exact hR.2.2.2.2.2.2.2.2.2.2.2.2.2.2.2.2
def AllB (p : aRow) : Prop := ∀ j, j < p.2 → byt (p.1 j)
theorem byt_n {n : Nat} (h : n ≤ 255) : byt (nI n) := ⟨nI_pos' (by omega), nI_le (b := 255) h (by omega)⟩
theorem byt_and (x : Int32) : byt (x &&& 255) := by
  rw [pk_and x (m := 255) 8 (by decide)]
  exact byt_n (by omega)
theorem byt_24 (x : Int32) : byt (u4 x 24) := by
  rw [← u24]
  exact byt_and _
theorem AllB.add {p : aRow} {x : Int32} (h : AllB p) (hx : byt x) : AllB (wA p x) := fun j hj => by
  by_cases e : j = p.2
  · subst e
    show byt (upd p.1 p.2 x p.2)
    rw [pk_us]; exact hx
  · show byt (upd p.1 p.2 x j)
    have hj' : j < p.2 + 1 := hj
    rw [pk_un e]; exact h j (by omega)
theorem AllB.num {p : aRow} {x : Int32} (h : AllB p) : AllB (wN p x) := (((h.add (byt_24 x)).add (byt_and _)).add (byt_and _)).add (byt_and _)
theorem AllB.op {p : aRow} {x : Int32} (h : AllB p) : AllB (opW p x) := h.num.num
theorem AllB.s {p : aRow} {a : Nat} {x : Int32} (h : AllB p) (hx : byt x) : AllB (wS p a x) := fun j hj => by
  by_cases e : j = a
  · subst e
    show byt (upd p.1 j x j)
    rw [pk_us]; exact hx
  · show byt (upd p.1 a x j)
    rw [pk_un e]; exact h j hj
theorem AllB.s4 {p : aRow} {a : Nat} (h : AllB p) (x : Int32) (_ : a + 3 < p.2) : AllB (wS4 p a x) := (((h.s (byt_24 x)).s (byt_and _)).s (byt_and _)).s (byt_and _)
theorem AllB.cl {p : aRow} {a : Nat} (h : AllB p) (ha : a + 8 ≤ p.2) : AllB (clW p a) := (h.s4 _ (by omega)).num
theorem AllB.as {g : Nat → Int32} : ∀ (n i : Nat) (p : aRow), AllB p → (∀ j, i ≤ j → j < i + n → byt (g j)) → AllB (wAs g i n p) := by
  intro n
  induction n with
  | zero => intro i p h _; exact h
  | succ n ih => intro i p h hg; exact ih (i + 1) _ (h.add (hg i (by omega) (by omega))) (fun j h1 h2 => hg j (by omega) (by omega))
def wT (x : Int32) (a : Nat) : Nat → Nat → aRow → aRow
  | 0, _, p => p
  | n + 1, k, p => wT x a n (k + 1) (wS p (a + k) (tnB x k))
theorem wT_4 (p : aRow) (a : Nat) (x : Int32) : wT x a 4 0 p = wS4 p a x := by
  show wS (wS (wS (wS p (a + 0) (tnB x 0)) (a + 1) (tnB x 1)) (a + 2) (tnB x 2)) (a + 3) (tnB x 3) = _
  rw [tn_0, tn_1, tn_2, tn_3]
  rfl
theorem crR_ag {f g : Nat → Int32} {c : Nat} (h : Ag c f g) : ∀ (n i : Nat) (s : Int32), i + n ≤ c → crR f n i s = crR g n i s := by
  intro n
  induction n with
  | zero => intro i s _; rfl
  | succ n ih => intro i s hi; rw [crR, crR, h i (by omega), ih (i + 1) _ (by omega)]
theorem cl_sum {p : aRow} {a : Nat} {f : Nat → Int32} (ha : a + 8 ≤ p.2) (hp : p.2 ≤ 8192) (hf : Ag (clP p a).2 f (clP p a).1) : crR f (p.2 - (a + 4)) (a + 4) (-1) ^^^ (-1) = wSum (clP p a) (a + 4) (clL p a + 4) := by
  have e2 : (clP p a).2 = p.2 := rfl
  unfold wSum
  rw [e2] at hf ⊢
  rw [crR_b hp _ _ _ (by unfold clL; omega), show clL p a + 4 = p.2 - (a + 4) by unfold clL; omega, crR_ag hf _ _ _ (by omega)]
set_option maxHeartbeats 4000000 in
theorem l_Ref_close {E : pmEv} {h0 : pmH} {z : Option Nat} {m : Nat} {g : Nat → Int32} {A : Nat → Nat → Int32} {a : Nat} {x : Int32} {P : aRow} {Q : pmA → pmS → Prop} : ∀ (n : Nat) (k : Nat) (p : aRow) (h : pmH) (d : Bool), k + n = 4 → a + 3 < p.2 → p.2 ≤ 2000 → RWr h m g A p → Sm h0 h m 17 → P = wT x a n k p → (∀ hx dx, RWr hx m g A P → Sm h0 hx m 17 → Go E (mRef_close, h0, 0, 0) 44 [some (.ref m), some (.int (nI a)), some (.int x), some (.int (nI (4)))] [] (hx, z, dx) 0 0 Q) → Go E (mRef_close, h0, 0, 0) 12 [some (.ref m), some (.int (nI a)), some (.int x), some (.int (nI (k)))] [] (h, z, d) 0 0 (Q) := by
  intro n
  induction n with
  | zero =>
    intro k p h d hk hap hp2 hW hs hP hkk
    obtain ⟨f, hR, hf⟩ := id hW
    refine go_iload_n dRef_close_12 rfl ?_
    refine go_iconst (v := 4) dRef_close_13 (by decide) ?_
    refine go_icmp_ge (tgt := 44) dRef_close_14 (fun c1 => ?_) (fun c1 => ?_)
    · obtain rfl : k = 4 := by omega
      exact hkk h d (by rw [show P = p from hP]; exact hW) hs
    · exact absurd (nI_le (a := 4) (b := k) (by omega) (by omega)) c1
  | succ n ih =>
    intro k p h d hk hap hp2 hW hs hP hkk
    obtain ⟨f, hR, hf⟩ := id hW
    refine go_iload_n dRef_close_12 rfl ?_
    refine go_iconst (v := 4) dRef_close_13 (by decide) ?_
    refine go_icmp_ge (tgt := 44) dRef_close_14 (fun c1 => ?_) (fun c1 => ?_)
    · exact absurd c1 (nI_ge (a := k) (b := 4) (by omega) (by omega))
    · refine go_aload_n dRef_close_17 rfl ?_
      refine go_getf dRef_close_18 qf_Ref_46 hR.1 rfl ?_
      refine go_iload_n dRef_close_21 rfl ?_
      refine go_iload_n dRef_close_22 rfl ?_
      refine go_iadd dRef_close_23 ?_
      refine go_top (y := nI (a + k)) (by exact nI_add _ _) ?_
      refine go_iload_n dRef_close_24 rfl ?_
      refine go_bipush (v := 24) dRef_close_25 (by decide) ?_
      refine go_bipush (v := 8) dRef_close_27 (by decide) ?_
      refine go_iload_n dRef_close_29 rfl ?_
      refine go_imul dRef_close_30 ?_
      refine go_isub dRef_close_31 ?_
      refine go_ishr dRef_close_32 ?_
      refine go_sipush (v := 255) dRef_close_33 (by decide) ?_
      refine go_iand dRef_close_36 ?_
      refine go_iast dRef_close_37 hR.2.2.2.2.2.2.2.2.2.2.2.2.2.1 (by exact vp_in_nI (by omega) (by omega)) (nI_clamp (by omega)) ?_
      refine go_iinc dRef_close_38 rfl (congrArg (_ + ·) lit1) ?_
      refine go_goto (tgt := 12) dRef_close_41 ?_
      refine go_nm (fun hnk1 enk1 => ?_)
      have gsk1 : Sm h hnk1 m 17 := by rw [enk1]; exact (Sm.put' (Sm.refl _ _ _) _ (by omega) (by omega))
      have hRk1 : RfA hnk1 m (upd g 30 (nI p.2)) (uA A 12 (upd f (a + k) (tnB x k))) := ⟨(congrFun enk1 m).trans ((pmU_n _ _ (by omega)).trans hR.1), (congrFun enk1 (m + 1)).trans ((pmU_n _ _ (by omega)).trans hR.2.1), (congrFun enk1 (m + 2)).trans ((pmU_n _ _ (by omega)).trans hR.2.2.1), (congrFun enk1 (m + 3)).trans ((pmU_n _ _ (by omega)).trans hR.2.2.2.1), (congrFun enk1 (m + 4)).trans ((pmU_n _ _ (by omega)).trans hR.2.2.2.2.1), (congrFun enk1 (m + 5)).trans ((pmU_n _ _ (by omega)).trans hR.2.2.2.2.2.1), (congrFun enk1 (m + 6)).trans ((pmU_n _ _ (by omega)).trans hR.2.2.2.2.2.2.1), (congrFun enk1 (m + 7)).trans ((pmU_n _ _ (by omega)).trans hR.2.2.2.2.2.2.2.1), (congrFun enk1 (m + 8)).trans ((pmU_n _ _ (by omega)).trans hR.2.2.2.2.2.2.2.2.1), (congrFun enk1 (m + 9)).trans ((pmU_n _ _ (by omega)).trans hR.2.2.2.2.2.2.2.2.2.1), (congrFun enk1 (m + 10)).trans ((pmU_n _ _ (by omega)).trans hR.2.2.2.2.2.2.2.2.2.2.1), (congrFun enk1 (m + 11)).trans ((pmU_n _ _ (by omega)).trans hR.2.2.2.2.2.2.2.2.2.2.2.1), (congrFun enk1 (m + 12)).trans ((pmU_n _ _ (by omega)).trans hR.2.2.2.2.2.2.2.2.2.2.2.2.1), (congrFun enk1 (m + 13)).trans (pmU_s _ _ _), (congrFun enk1 (m + 14)).trans ((pmU_n _ _ (by omega)).trans hR.2.2.2.2.2.2.2.2.2.2.2.2.2.2.1), (congrFun enk1 (m + 15)).trans ((pmU_n _ _ (by omega)).trans hR.2.2.2.2.2.2.2.2.2.2.2.2.2.2.2.1), (congrFun enk1 (m + 16)).trans ((pmU_n _ _ (by omega)).trans hR.2.2.2.2.2.2.2.2.2.2.2.2.2.2.2.2)⟩
      have sk1 := hs.trans gsk1
      exact go_at (ih (k + 1) (wS p (a + k) (tnB x k)) _ _ (by omega) hap hp2 ⟨_, hRk1, hf.up _ _⟩ sk1 (by rw [hP, wT]) hkk) rfl (by rw [nI_succ k]; rfl) rfl rfl
set_option maxHeartbeats 4000000 in
theorem r_close {E : pmEv} {h : pmH} {z : Option Nat} {m : Nat} {g : Nat → Int32} {A : Nat → Nat → Int32} {p : aRow} {a : Nat} (ha : a + 8 ≤ p.2) (hp : p.2 + 4 ≤ 2000) (hB : AllB p) (hW : RWr h m g A p) : Call E mRef_close [.ref m, .int (nI a)] h z 0 0 (RetX (none) (fun h' => RWr h' m g A (clW p a) ∧ Sm h h' m 17) z) := by
  obtain ⟨f, hR, hf⟩ := id hW
  have hs : Sm h h m 17 := Sm.refl _ _ _
  refine call_of (L := [some (.ref m), some (.int (nI a)), none, none]) ok_mRef_close (Nat.le_of_ble_eq_true rfl) ?_
  refine go_aload_n dRef_close_0 rfl ?_
  refine go_getf dRef_close_1 qf_Ref_147 hR.1 rfl ?_
  refine go_top (y := nI p.2) (by exact rfl) ?_
  refine go_iload_n dRef_close_4 rfl ?_
  refine go_isub dRef_close_5 ?_
  refine go_bipush (v := 8) dRef_close_6 (by decide) ?_
  refine go_isub dRef_close_8 ?_
  refine go_top (y := nI (clL p a)) (by rw [pk_sub (by omega), show (8 : Int32) = nI 8 from rfl, pk_sub (by omega)]; rfl) ?_
  refine go_istore_n dRef_close_9 ?_
  refine go_iconst (v := 0) dRef_close_10 (by decide) ?_
  refine go_istore_n dRef_close_11 ?_
  refine l_Ref_close (x := nI (clL p a)) (P := clP p a) 4 0 p h false (by omega) (by omega) (by omega) hW hs (wT_4 p a _).symm (fun hx2 dx2 hW2 hs2 => ?_)
  obtain ⟨f2, hR2, hf2⟩ := id hW2
  refine go_aload_n dRef_close_44 rfl ?_
  refine go_aload_n dRef_close_45 rfl ?_
  refine go_getf dRef_close_46 qf_Ref_46 hR2.1 rfl ?_
  refine go_iload_n dRef_close_49 rfl ?_
  refine go_iconst (v := 4) dRef_close_50 (by decide) ?_
  refine go_iadd dRef_close_51 ?_
  refine go_top (y := nI (a + 4)) (by exact nI_a4 _) ?_
  refine go_aload_n dRef_close_52 rfl ?_
  refine go_getf dRef_close_53 qf_Ref_147 hR2.1 rfl ?_
  refine go_top (y := nI p.2) (by exact rfl) ?_
  refine go_statP dRef_close_56 ok_mRef_sumOf st_mRef_sumOf qm_Ref_160 (r_sumOf (N := 2000) (f := f2) (i0 := a + 4) (e := p.2) (by omega) (by omega) (by omega) (fun j h1 h2 => by rw [hf2 j h2]; exact (hB.s4 _ (by omega)) j h2) hR2.2.2.2.2.2.2.2.2.2.2.2.2.2.1) ?_ (hnp := np_mRef_sumOf)
  refine go_top (y := (wSum (clP p a) (a + 4) (clL p a + 4))) (cl_sum (by omega) (by omega) hf2) ?_
  refine go_virtX dRef_close_59 ok_mRef_tellNumber im_mRef_tellNumber se_mRef_tellNumber qm_Ref_164 hR2.1 (r_tellNumber (p := clP p a) (show p.2 + 4 ≤ 2000 from hp) hW2) (fun hx1 d1 q1 => ?_) (hnp := np_mRef_tellNumber)
  refine go_vret dRef_close_62 rfl ?_ (Nat.le_of_ble_eq_true rfl) (Nat.le_of_ble_eq_true rfl)
  exact retX ⟨q1.1, (hs2.trans q1.2)⟩
set_option maxHeartbeats 4000000 in
theorem l_Ref_wTags2 {E : pmEv} {h0 h : pmH} {z : Option Nat} {d : Bool} {m : Nat} {g : Nat → Int32} {A : Nat → Nat → Int32} {p : aRow} {τ : Nat → Int32} {G : aRow} (hτ : Ag 3 (A 2) τ) (h1τ : τ 1 = -1 ∨ byt (τ 1)) (hn : p.2 + 21 ≤ 2000) (hB : AllB p) (hW : RWr h m g A p) (hs : Sm h0 h m 17) (hG : G = tgW2 τ p) : Go E (mRef_writeTags, h0, 0, 0) 64 [some (.ref m), none] [] (h, z, d) 0 0 (RetX none (fun h' => RWr h' m g A G ∧ AllB G ∧ Sm h0 h' m 17) z) := by
  refine go_aload_n dRef_writeTags_64 rfl ?_
  refine go_getf dRef_writeTags_65 qf_Ref_16 hW.cell rfl ?_
  refine go_iconst (v := 2) dRef_writeTags_68 (by decide) ?_
  refine go_iald dRef_writeTags_69 hW.a2 (vp_in_nI (n := 2) (by omega) (by omega)) rfl ?_
  refine go_top (y := τ 2) (by exact hτ 2 (by omega)) ?_
  refine go_iconst (v := -1) dRef_writeTags_70 (by decide) ?_
  refine go_icmp_eq (tgt := 111) dRef_writeTags_71 (fun c1 => ?_) (fun c1 => ?_)
  · refine go_vret dRef_writeTags_111 rfl ?_ (Nat.le_of_ble_eq_true rfl) (Nat.le_of_ble_eq_true rfl)
    rw [show G = _ from hG.trans (by rw [tgW2, if_pos c1])]
    exact retX ⟨hW, hB, hs⟩
  · refine go_aload_n dRef_writeTags_74 rfl ?_
    refine go_ldc dRef_writeTags_75 qc_Ref_126 ?_
    refine go_virtX dRef_writeTags_77 ok_mRef_open im_mRef_open se_mRef_open qm_Ref_167 hW.cell (r_open (show p.2 + 0 + 8 ≤ 2000 by omega) hW) (fun hx2 d2 q2 => ?_) (hnp := np_mRef_open)
    have hW2 := q2.1
    have s2 := hs.trans q2.2
    refine go_istore_n dRef_writeTags_80 ?_
    refine go_aload_n dRef_writeTags_81 rfl ?_
    refine go_aload_n dRef_writeTags_82 rfl ?_
    refine go_getf dRef_writeTags_83 qf_Ref_16 hW2.cell rfl ?_
    refine go_iconst (v := 2) dRef_writeTags_86 (by decide) ?_
    refine go_iald dRef_writeTags_87 hW2.a2 (vp_in_nI (n := 2) (by omega) (by omega)) rfl ?_
    refine go_top (y := τ 2) (by exact hτ 2 (by omega)) ?_
    refine go_virtX dRef_writeTags_88 ok_mRef_tellNumber im_mRef_tellNumber se_mRef_tellNumber qm_Ref_164 hW2.cell (r_tellNumber (show p.2 + 8 + 4 ≤ 2000 by omega) hW2) (fun hx3 d3 q3 => ?_) (hnp := np_mRef_tellNumber)
    have hW3 := q3.1
    have s3 := s2.trans q3.2
    refine go_aload_n dRef_writeTags_91 rfl ?_
    refine go_aload_n dRef_writeTags_92 rfl ?_
    refine go_getf dRef_writeTags_93 qf_Ref_16 hW3.cell rfl ?_
    refine go_iconst (v := 2) dRef_writeTags_96 (by decide) ?_
    refine go_iald dRef_writeTags_97 hW3.a2 (vp_in_nI (n := 2) (by omega) (by omega)) rfl ?_
    refine go_top (y := τ 2) (by exact hτ 2 (by omega)) ?_
    refine go_virtX dRef_writeTags_98 ok_mRef_tellNumber im_mRef_tellNumber se_mRef_tellNumber qm_Ref_164 hW3.cell (r_tellNumber (show p.2 + 12 + 4 ≤ 2000 by omega) hW3) (fun hx4 d4 q4 => ?_) (hnp := np_mRef_tellNumber)
    have hW4 := q4.1
    have s4 := s3.trans q4.2
    refine go_aload_n dRef_writeTags_101 rfl ?_
    refine go_iconst (v := 1) dRef_writeTags_102 (by decide) ?_
    refine go_virtX dRef_writeTags_103 ok_mRef_tell im_mRef_tell se_mRef_tell qm_Ref_150 hW4.cell (r_tell (show p.2 + 16 < 2000 by omega) hW4) (fun hx5 d5 q5 => ?_) (hnp := np_mRef_tell)
    have hW5 := q5.1
    have s5 := s4.trans q5.2
    refine go_aload_n dRef_writeTags_106 rfl ?_
    refine go_iload_n dRef_writeTags_107 rfl ?_
    refine go_virtX dRef_writeTags_108 ok_mRef_close im_mRef_close se_mRef_close qm_Ref_170 hW5.cell (r_close (show p.2 + 0 + 8 ≤ p.2 + 17 by omega) (show p.2 + 17 + 4 ≤ 2000 by omega) ((((hB.op).num).num).add ⟨by decide, by decide⟩) hW5) (fun hx6 d6 q6 => ?_) (hnp := np_mRef_close)
    have hW6 := q6.1
    have s6 := s5.trans q6.2
    refine go_vret dRef_writeTags_111 rfl ?_ (Nat.le_of_ble_eq_true rfl) (Nat.le_of_ble_eq_true rfl)
    rw [show G = _ from hG.trans (by rw [tgW2, if_neg c1])]
    exact retX ⟨hW6, (((((hB.op).num).num).add ⟨by decide, by decide⟩).cl (show p.2 + 0 + 8 ≤ p.2 + 17 by omega)), s6⟩
set_option maxHeartbeats 4000000 in
theorem l_Ref_wTags1 {E : pmEv} {h0 h : pmH} {z : Option Nat} {d : Bool} {m : Nat} {g : Nat → Int32} {A : Nat → Nat → Int32} {p : aRow} {τ : Nat → Int32} {G : aRow} (hτ : Ag 3 (A 2) τ) (h1τ : τ 1 = -1 ∨ byt (τ 1)) (hn : p.2 + 34 ≤ 2000) (hB : AllB p) (hW : RWr h m g A p) (hs : Sm h0 h m 17) (hG : G = tgW2 τ (tgW1 τ p)) : Go E (mRef_writeTags, h0, 0, 0) 32 [some (.ref m), none] [] (h, z, d) 0 0 (RetX none (fun h' => RWr h' m g A G ∧ AllB G ∧ Sm h0 h' m 17) z) := by
  refine go_aload_n dRef_writeTags_32 rfl ?_
  refine go_getf dRef_writeTags_33 qf_Ref_16 hW.cell rfl ?_
  refine go_iconst (v := 1) dRef_writeTags_36 (by decide) ?_
  refine go_iald dRef_writeTags_37 hW.a2 (vp_in_nI (n := 1) (by omega) (by omega)) rfl ?_
  refine go_top (y := τ 1) (by exact hτ 1 (by omega)) ?_
  refine go_iconst (v := -1) dRef_writeTags_38 (by decide) ?_
  refine go_icmp_eq (tgt := 64) dRef_writeTags_39 (fun c1 => ?_) (fun c1 => ?_)
  · exact l_Ref_wTags2 hτ h1τ (by omega) hB hW hs (by rw [hG, tgW1, if_pos c1])
  · refine go_aload_n dRef_writeTags_42 rfl ?_
    refine go_ldc dRef_writeTags_43 qc_Ref_125 ?_
    refine go_virtX dRef_writeTags_45 ok_mRef_open im_mRef_open se_mRef_open qm_Ref_167 hW.cell (r_open (show p.2 + 0 + 8 ≤ 2000 by omega) hW) (fun hx2 d2 q2 => ?_) (hnp := np_mRef_open)
    have hW2 := q2.1
    have s2 := hs.trans q2.2
    refine go_istore_n dRef_writeTags_48 ?_
    refine go_aload_n dRef_writeTags_49 rfl ?_
    refine go_aload_n dRef_writeTags_50 rfl ?_
    refine go_getf dRef_writeTags_51 qf_Ref_16 hW2.cell rfl ?_
    refine go_iconst (v := 1) dRef_writeTags_54 (by decide) ?_
    refine go_iald dRef_writeTags_55 hW2.a2 (vp_in_nI (n := 1) (by omega) (by omega)) rfl ?_
    refine go_top (y := τ 1) (by exact hτ 1 (by omega)) ?_
    refine go_virtX dRef_writeTags_56 ok_mRef_tell im_mRef_tell se_mRef_tell qm_Ref_150 hW2.cell (r_tell (show p.2 + 8 < 2000 by omega) hW2) (fun hx3 d3 q3 => ?_) (hnp := np_mRef_tell)
    have hW3 := q3.1
    have s3 := s2.trans q3.2
    refine go_aload_n dRef_writeTags_59 rfl ?_
    refine go_iload_n dRef_writeTags_60 rfl ?_
    refine go_virtX dRef_writeTags_61 ok_mRef_close im_mRef_close se_mRef_close qm_Ref_170 hW3.cell (r_close (show p.2 + 0 + 8 ≤ p.2 + 9 by omega) (show p.2 + 9 + 4 ≤ 2000 by omega) ((hB.op).add (h1τ.resolve_left c1)) hW3) (fun hx4 d4 q4 => ?_) (hnp := np_mRef_close)
    have hW4 := q4.1
    have s4 := s3.trans q4.2
    refine go_fg 1 ?_
    exact l_Ref_wTags2 hτ h1τ (by show p.2 + 13 + 21 ≤ 2000; omega) (((hB.op).add (h1τ.resolve_left c1)).cl (show p.2 + 0 + 8 ≤ p.2 + 9 by omega)) hW4 s4 (by rw [hG, tgW1, if_neg c1])
set_option maxHeartbeats 4000000 in
theorem r_writeTags {E : pmEv} {h : pmH} {z : Option Nat} {m : Nat} {g : Nat → Int32} {A : Nat → Nat → Int32} {p : aRow} {τ : Nat → Int32} (hτ : Ag 3 (A 2) τ) (h1τ : τ 1 = -1 ∨ byt (τ 1)) (hn : p.2 + 50 ≤ 2000) (hB : AllB p) (hW : RWr h m g A p) : Call E mRef_writeTags [.ref m] h z 0 0 (RetX none (fun h' => RWr h' m g A (tgW τ p) ∧ AllB (tgW τ p) ∧ Sm h h' m 17) z) := by
  have hs : Sm h h m 17 := Sm.refl _ _ _
  refine call_of (L := [some (.ref m), none]) ok_mRef_writeTags (Nat.le_of_ble_eq_true rfl) ?_
  refine go_aload_n dRef_writeTags_0 rfl ?_
  refine go_getf dRef_writeTags_1 qf_Ref_16 hW.cell rfl ?_
  refine go_iconst (v := 0) dRef_writeTags_4 (by decide) ?_
  refine go_iald dRef_writeTags_5 hW.a2 (vp_in_nI (n := 0) (by omega) (by omega)) rfl ?_
  refine go_top (y := τ 0) (by exact hτ 0 (by omega)) ?_
  refine go_iconst (v := -1) dRef_writeTags_6 (by decide) ?_
  refine go_icmp_eq (tgt := 32) dRef_writeTags_7 (fun c1 => ?_) (fun c1 => ?_)
  · exact l_Ref_wTags1 hτ h1τ (by omega) hB hW hs (by rw [tgW, tgW0, if_pos c1])
  · refine go_aload_n dRef_writeTags_10 rfl ?_
    refine go_ldc dRef_writeTags_11 qc_Ref_124 ?_
    refine go_virtX dRef_writeTags_13 ok_mRef_open im_mRef_open se_mRef_open qm_Ref_167 hW.cell (r_open (show p.2 + 0 + 8 ≤ 2000 by omega) hW) (fun hx2 d2 q2 => ?_) (hnp := np_mRef_open)
    have hW2 := q2.1
    have s2 := hs.trans q2.2
    refine go_istore_n dRef_writeTags_16 ?_
    refine go_aload_n dRef_writeTags_17 rfl ?_
    refine go_aload_n dRef_writeTags_18 rfl ?_
    refine go_getf dRef_writeTags_19 qf_Ref_16 hW2.cell rfl ?_
    refine go_iconst (v := 0) dRef_writeTags_22 (by decide) ?_
    refine go_iald dRef_writeTags_23 hW2.a2 (vp_in_nI (n := 0) (by omega) (by omega)) rfl ?_
    refine go_top (y := τ 0) (by exact hτ 0 (by omega)) ?_
    refine go_virtX dRef_writeTags_24 ok_mRef_tellNumber im_mRef_tellNumber se_mRef_tellNumber qm_Ref_164 hW2.cell (r_tellNumber (show p.2 + 8 + 4 ≤ 2000 by omega) hW2) (fun hx3 d3 q3 => ?_) (hnp := np_mRef_tellNumber)
    have hW3 := q3.1
    have s3 := s2.trans q3.2
    refine go_aload_n dRef_writeTags_27 rfl ?_
    refine go_iload_n dRef_writeTags_28 rfl ?_
    refine go_virtX dRef_writeTags_29 ok_mRef_close im_mRef_close se_mRef_close qm_Ref_170 hW3.cell (r_close (show p.2 + 0 + 8 ≤ p.2 + 12 by omega) (show p.2 + 12 + 4 ≤ 2000 by omega) ((hB.op).num) hW3) (fun hx4 d4 q4 => ?_) (hnp := np_mRef_close)
    have hW4 := q4.1
    have s4 := s3.trans q4.2
    refine go_fg 1 ?_
    exact l_Ref_wTags1 hτ h1τ (by show p.2 + 16 + 34 ≤ 2000; omega) (((hB.op).num).cl (show p.2 + 0 + 8 ≤ p.2 + 12 by omega)) hW4 s4 (by rw [tgW, tgW0, if_neg c1])
