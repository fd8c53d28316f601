/-! ===== the reference: more of its methods (by wip/whole/gen_rMore.py) ===== -/
theorem le_3 {x : Int32} (h : x < 4) : x ≤ 3 := by
  rw [Int32.lt_iff_toInt_lt] at h
  rw [Int32.le_iff_toInt_le]
  have e1 : (4 : Int32).toInt = 4 := by decide
  have e2 : (3 : Int32).toInt = 3 := by decide
  omega
theorem lt_4 {x : Int32} (h : x ≤ 3) : x < 4 := by
  rw [Int32.le_iff_toInt_le] at h
  rw [Int32.lt_iff_toInt_lt]
  have e1 : (4 : Int32).toInt = 4 := by decide
  have e2 : (3 : Int32).toInt = 3 := by decide
  omega
theorem m1_of {x : Int32} (h : ¬ x < -1) (h' : ¬ 0 ≤ x) : x = -1 := by
  rw [Int32.lt_iff_toInt_lt] at h
  rw [Int32.le_iff_toInt_le] at h'
  apply Int32.toInt_inj.mp
  have e1 : (-1 : Int32).toInt = -1 := by decide
  have e2 : (0 : Int32).toInt = 0 := by decide
  omega
theorem eAr.cp {e : aExt} {gl gs gb fl fs fb : Nat → Int32} (hc : e.2.2.2 ≤ 6) (h : eAr e gl gs gb) (h1 : ∀ k, k < 6 → fl k = gl k) (h2 : ∀ k, k < 6 → fs k = gs k) (h3 : ∀ k, k < 240 → fb k = gb k) : eAr e fl fs fb := ⟨fun k hk => (h1 k (by omega)).trans (h.1 k hk), fun k hk => ⟨(h2 k (by omega)).trans (h.2.1 k hk).1, (h.2.1 k hk).2⟩, fun k hk i hi => (h3 _ (by have := (h.2.1 k hk).2; omega)).trans (h.2.2 k hk i hi)⟩
theorem pos_lt {d : Nat × Nat × Nat × Nat} (ho : okN d) {x y u : Nat} (hx : x < d.1) (hy : y < d.2.1) (hu : u < chN d.2.2.2) : (y * 12 + x) * 4 + u < 576 := by
  have := ho.w
  have := chN_le d.2.2.2
  omega
set_option maxHeartbeats 4000000 in
theorem l_Ref_head1 {E : pmEv} {h0 : pmH} {z : Option Nat} {m : Nat} {g : Nat → Int32} {A : Nat → Nat → Int32} {a1 a2 a3 a4 : Int32} {Q : pmA → pmS → Prop} : ∀ (n : Nat) (i : Nat) (f0 : Nat → Int32) (h : pmH) (d : Bool), i + n = 576 → RfA h m g (uA A 0 f0) → (∀ k, k < i → f0 k = (fun _ => 0) k) → Sm h0 h m 17 → (∀ hx dx (f0' : Nat → Int32), RfA hx m g (uA A 0 f0') → (∀ k, k < 576 → f0' k = (fun _ => 0) k) → Sm h0 hx m 17 → Go E (mRef_head, h0, 0, 0) 79 [some (.ref m), some (.int a1), some (.int a2), some (.int a3), some (.int a4), some (.int (nI (576)))] [] (hx, z, dx) 0 0 (Q)) → Go E (mRef_head, h0, 0, 0) 57 [some (.ref m), some (.int a1), some (.int a2), some (.int a3), some (.int a4), some (.int (nI (i)))] [] (h, z, d) 0 0 (Q) := by
  intro n
  induction n with
  | zero =>
    intro i f0 h d hi hR e0 hs hk
    refine go_iload dRef_head_57 rfl ?_
    refine go_sipush (v := 576) dRef_head_59 (by decide) ?_
    refine go_icmp_ge (tgt := 79) dRef_head_62 (fun c1 => ?_) (fun c1 => ?_)
    · obtain rfl : i = 576 := by omega
      exact hk h d f0 hR e0 hs
    · exact absurd (nI_le (a := 576) (b := i) (by omega) (by omega)) c1
  | succ n ih =>
    intro i f0 h d hi hR e0 hs hk
    refine go_iload dRef_head_57 rfl ?_
    refine go_sipush (v := 576) dRef_head_59 (by decide) ?_
    refine go_icmp_ge (tgt := 79) dRef_head_62 (fun c1 => ?_) (fun c1 => ?_)
    · exact absurd c1 (nI_ge (a := i) (b := 576) (by omega) (by omega))
    · refine go_aload_n dRef_head_65 rfl ?_
      refine go_getf dRef_head_66 qf_Ref_7 hR.1 rfl ?_
      refine go_iload dRef_head_69 rfl ?_
      refine go_iconst (v := 0) dRef_head_71 (by decide) ?_
      refine go_iast dRef_head_72 hR.2.1 (by exact vp_in_nI (by omega) (by omega)) (nI_clamp (by omega)) ?_
      refine go_iinc dRef_head_73 rfl (congrArg (_ + ·) lit1) ?_
      refine go_goto (tgt := 57) dRef_head_76 ?_
      refine go_nm (fun hnk1 enk1 => ?_)
      have gsk1 : Sm h hnk1 m 17 := by rw [enk1]; exact (Sm.put' (Sm.refl _ _ _) _ (by omega) (by omega))
      have hRk1 : RfA hnk1 m (g) ((uA A 0 (upd f0 i ((fun _ => 0) i)))) := ⟨(congrFun enk1 m).trans ((pmU_n _ _ (by omega)).trans hR.1), (congrFun enk1 (m + 1)).trans (pmU_s _ _ _), (congrFun enk1 (m + 2)).trans ((pmU_n _ _ (by omega)).trans hR.2.2.1), (congrFun enk1 (m + 3)).trans ((pmU_n _ _ (by omega)).trans hR.2.2.2.1), (congrFun enk1 (m + 4)).trans ((pmU_n _ _ (by omega)).trans hR.2.2.2.2.1), (congrFun enk1 (m + 5)).trans ((pmU_n _ _ (by omega)).trans hR.2.2.2.2.2.1), (congrFun enk1 (m + 6)).trans ((pmU_n _ _ (by omega)).trans hR.2.2.2.2.2.2.1), (congrFun enk1 (m + 7)).trans ((pmU_n _ _ (by omega)).trans hR.2.2.2.2.2.2.2.1), (congrFun enk1 (m + 8)).trans ((pmU_n _ _ (by omega)).trans hR.2.2.2.2.2.2.2.2.1), (congrFun enk1 (m + 9)).trans ((pmU_n _ _ (by omega)).trans hR.2.2.2.2.2.2.2.2.2.1), (congrFun enk1 (m + 10)).trans ((pmU_n _ _ (by omega)).trans hR.2.2.2.2.2.2.2.2.2.2.1), (congrFun enk1 (m + 11)).trans ((pmU_n _ _ (by omega)).trans hR.2.2.2.2.2.2.2.2.2.2.2.1), (congrFun enk1 (m + 12)).trans ((pmU_n _ _ (by omega)).trans hR.2.2.2.2.2.2.2.2.2.2.2.2.1), (congrFun enk1 (m + 13)).trans ((pmU_n _ _ (by omega)).trans hR.2.2.2.2.2.2.2.2.2.2.2.2.2.1), (congrFun enk1 (m + 14)).trans ((pmU_n _ _ (by omega)).trans hR.2.2.2.2.2.2.2.2.2.2.2.2.2.2.1), (congrFun enk1 (m + 15)).trans ((pmU_n _ _ (by omega)).trans hR.2.2.2.2.2.2.2.2.2.2.2.2.2.2.2.1), (congrFun enk1 (m + 16)).trans ((pmU_n _ _ (by omega)).trans hR.2.2.2.2.2.2.2.2.2.2.2.2.2.2.2.2)⟩
      have sk1 := hs.trans gsk1
      exact go_at (ih (i + 1) (upd f0 i ((fun _ => 0) i)) _ _ (by omega) hRk1 (upS1 e0) sk1 hk) rfl (by rw [nI_succ i]; rfl) rfl rfl
set_option maxHeartbeats 4000000 in
theorem l_Ref_head3 {E : pmEv} {h0 : pmH} {z : Option Nat} {m : Nat} {g : Nat → Int32} {A : Nat → Nat → Int32} {a1 a2 a3 a4 : Int32} {Q : pmA → pmS → Prop} : ∀ (n : Nat) (i : Nat) (f2 : Nat → Int32) (h : pmH) (d : Bool), i + n = 3 → RfA h m g (uA A 2 f2) → (∀ k, k < i → f2 k = (fun _ => -1) k) → Sm h0 h m 17 → (∀ hx dx (f2' : Nat → Int32), RfA hx m g (uA A 2 f2') → (∀ k, k < 3 → f2' k = (fun _ => -1) k) → Sm h0 hx m 17 → Go E (mRef_head, h0, 0, 0) 112 [some (.ref m), some (.int a1), some (.int a2), some (.int a3), some (.int a4), some (.int (nI (3)))] [] (hx, z, dx) 0 0 (Q)) → Go E (mRef_head, h0, 0, 0) 92 [some (.ref m), some (.int a1), some (.int a2), some (.int a3), some (.int a4), some (.int (nI (i)))] [] (h, z, d) 0 0 (Q) := by
  intro n
  induction n with
  | zero =>
    intro i f2 h d hi hR e2 hs hk
    refine go_iload dRef_head_92 rfl ?_
    refine go_iconst (v := 3) dRef_head_94 (by decide) ?_
    refine go_icmp_ge (tgt := 112) dRef_head_95 (fun c1 => ?_) (fun c1 => ?_)
    · obtain rfl : i = 3 := by omega
      exact hk h d f2 hR e2 hs
    · exact absurd (nI_le (a := 3) (b := i) (by omega) (by omega)) c1
  | succ n ih =>
    intro i f2 h d hi hR e2 hs hk
    refine go_iload dRef_head_92 rfl ?_
    refine go_iconst (v := 3) dRef_head_94 (by decide) ?_
    refine go_icmp_ge (tgt := 112) dRef_head_95 (fun c1 => ?_) (fun c1 => ?_)
    · exact absurd c1 (nI_ge (a := i) (b := 3) (by omega) (by omega))
    · refine go_aload_n dRef_head_98 rfl ?_
      refine go_getf dRef_head_99 qf_Ref_16 hR.1 rfl ?_
      refine go_iload dRef_head_102 rfl ?_
      refine go_iconst (v := -1) dRef_head_104 (by decide) ?_
      refine go_iast dRef_head_105 hR.2.2.2.1 (by exact vp_in_nI (by omega) (by omega)) (nI_clamp (by omega)) ?_
      refine go_iinc dRef_head_106 rfl (congrArg (_ + ·) lit1) ?_
      refine go_goto (tgt := 92) dRef_head_109 ?_
      refine go_nm (fun hnk1 enk1 => ?_)
      have gsk1 : Sm h hnk1 m 17 := by rw [enk1]; exact (Sm.put' (Sm.refl _ _ _) _ (by omega) (by omega))
      have hRk1 : RfA hnk1 m (g) ((uA A 2 (upd f2 i ((fun _ => -1) i)))) := ⟨(congrFun enk1 m).trans ((pmU_n _ _ (by omega)).trans hR.1), (congrFun enk1 (m + 1)).trans ((pmU_n _ _ (by omega)).trans hR.2.1), (congrFun enk1 (m + 2)).trans ((pmU_n _ _ (by omega)).trans hR.2.2.1), (congrFun enk1 (m + 3)).trans (pmU_s _ _ _), (congrFun enk1 (m + 4)).trans ((pmU_n _ _ (by omega)).trans hR.2.2.2.2.1), (congrFun enk1 (m + 5)).trans ((pmU_n _ _ (by omega)).trans hR.2.2.2.2.2.1), (congrFun enk1 (m + 6)).trans ((pmU_n _ _ (by omega)).trans hR.2.2.2.2.2.2.1), (congrFun enk1 (m + 7)).trans ((pmU_n _ _ (by omega)).trans hR.2.2.2.2.2.2.2.1), (congrFun enk1 (m + 8)).trans ((pmU_n _ _ (by omega)).trans hR.2.2.2.2.2.2.2.2.1), (congrFun enk1 (m + 9)).trans ((pmU_n _ _ (by omega)).trans hR.2.2.2.2.2.2.2.2.2.1), (congrFun enk1 (m + 10)).trans ((pmU_n _ _ (by omega)).trans hR.2.2.2.2.2.2.2.2.2.2.1), (congrFun enk1 (m + 11)).trans ((pmU_n _ _ (by omega)).trans hR.2.2.2.2.2.2.2.2.2.2.2.1), (congrFun enk1 (m + 12)).trans ((pmU_n _ _ (by omega)).trans hR.2.2.2.2.2.2.2.2.2.2.2.2.1), (congrFun enk1 (m + 13)).trans ((pmU_n _ _ (by omega)).trans hR.2.2.2.2.2.2.2.2.2.2.2.2.2.1), (congrFun enk1 (m + 14)).trans ((pmU_n _ _ (by omega)).trans hR.2.2.2.2.2.2.2.2.2.2.2.2.2.2.1), (congrFun enk1 (m + 15)).trans ((pmU_n _ _ (by omega)).trans hR.2.2.2.2.2.2.2.2.2.2.2.2.2.2.2.1), (congrFun enk1 (m + 16)).trans ((pmU_n _ _ (by omega)).trans hR.2.2.2.2.2.2.2.2.2.2.2.2.2.2.2.2)⟩
      have sk1 := hs.trans gsk1
      exact go_at (ih (i + 1) (upd f2 i ((fun _ => -1) i)) _ _ (by omega) hRk1 (upS1 e2) sk1 hk) rfl (by rw [nI_succ i]; rfl) rfl rfl
set_option maxHeartbeats 4000000 in
theorem l_Ref_head2 {E : pmEv} {h0 h : pmH} {z : Option Nat} {d : Bool} {m : Nat} {g : Nat → Int32} {A : Nat → Nat → Int32} {α : aPF} {a1 a2 a3 a4 : Int32} {f : Nat → Int32} (hr : RR g A α) (hok : okHead a1 a2 a3 a4) (hR : RfA h m (upd (upd (upd (upd (upd (upd g 0 0) 1 1) 2 a1) 3 a2) 4 a3) 5 a4) (uA A 0 f)) (hf : ∀ k, k < 576 → f k = 0) (hs : Sm h0 h m 17) : Go E (mRef_head, h0, 0, 0) 79 [some (.ref m), some (.int a1), some (.int a2), some (.int a3), some (.int a4), some (.int (nI 576))] [] (h, none, d) 0 0 (RetR m h0 [0, 1] none (hdF α a1 a2 a3 a4)) := by
  refine go_aload_n dRef_head_79 rfl ?_
  refine go_iconst (v := 0) dRef_head_80 (by decide) ?_
  refine go_putf dRef_head_81 qf_Ref_83 pw_8_7 hR.1 rfl rfl ?_
  refine go_aload_n dRef_head_84 rfl ?_
  refine go_iconst (v := 0) dRef_head_85 (by decide) ?_
  refine go_putf dRef_head_86 qf_Ref_86 pw_8_10 (pmU_s _ _ _) rfl rfl ?_
  refine go_nm (fun hnk1 enk1 => ?_)
  have gsk1 : Sm h hnk1 m 17 := by rw [enk1]; exact (Sm.put' (Sm.put' (Sm.refl _ _ _) _ (by omega) (by omega)) _ (by omega) (by omega))
  have hRk1 : RfA hnk1 m ((upd (upd (upd (upd (upd (upd (upd (upd g 0 0) 1 1) 2 a1) 3 a2) 4 a3) 5 a4) 7 0) 10 0)) (uA A 0 f) := ⟨(congrFun enk1 m).trans (pmU_s _ _ _), (congrFun enk1 (m + 1)).trans ((pmU_n _ _ (by omega)).trans ((pmU_n _ _ (by omega)).trans hR.2.1)), (congrFun enk1 (m + 2)).trans ((pmU_n _ _ (by omega)).trans ((pmU_n _ _ (by omega)).trans hR.2.2.1)), (congrFun enk1 (m + 3)).trans ((pmU_n _ _ (by omega)).trans ((pmU_n _ _ (by omega)).trans hR.2.2.2.1)), (congrFun enk1 (m + 4)).trans ((pmU_n _ _ (by omega)).trans ((pmU_n _ _ (by omega)).trans hR.2.2.2.2.1)), (congrFun enk1 (m + 5)).trans ((pmU_n _ _ (by omega)).trans ((pmU_n _ _ (by omega)).trans hR.2.2.2.2.2.1)), (congrFun enk1 (m + 6)).trans ((pmU_n _ _ (by omega)).trans ((pmU_n _ _ (by omega)).trans hR.2.2.2.2.2.2.1)), (congrFun enk1 (m + 7)).trans ((pmU_n _ _ (by omega)).trans ((pmU_n _ _ (by omega)).trans hR.2.2.2.2.2.2.2.1)), (congrFun enk1 (m + 8)).trans ((pmU_n _ _ (by omega)).trans ((pmU_n _ _ (by omega)).trans hR.2.2.2.2.2.2.2.2.1)), (congrFun enk1 (m + 9)).trans ((pmU_n _ _ (by omega)).trans ((pmU_n _ _ (by omega)).trans hR.2.2.2.2.2.2.2.2.2.1)), (congrFun enk1 (m + 10)).trans ((pmU_n _ _ (by omega)).trans ((pmU_n _ _ (by omega)).trans hR.2.2.2.2.2.2.2.2.2.2.1)), (congrFun enk1 (m + 11)).trans ((pmU_n _ _ (by omega)).trans ((pmU_n _ _ (by omega)).trans hR.2.2.2.2.2.2.2.2.2.2.2.1)), (congrFun enk1 (m + 12)).trans ((pmU_n _ _ (by omega)).trans ((pmU_n _ _ (by omega)).trans hR.2.2.2.2.2.2.2.2.2.2.2.2.1)), (congrFun enk1 (m + 13)).trans ((pmU_n _ _ (by omega)).trans ((pmU_n _ _ (by omega)).trans hR.2.2.2.2.2.2.2.2.2.2.2.2.2.1)), (congrFun enk1 (m + 14)).trans ((pmU_n _ _ (by omega)).trans ((pmU_n _ _ (by omega)).trans hR.2.2.2.2.2.2.2.2.2.2.2.2.2.2.1)), (congrFun enk1 (m + 15)).trans ((pmU_n _ _ (by omega)).trans ((pmU_n _ _ (by omega)).trans hR.2.2.2.2.2.2.2.2.2.2.2.2.2.2.2.1)), (congrFun enk1 (m + 16)).trans ((pmU_n _ _ (by omega)).trans ((pmU_n _ _ (by omega)).trans hR.2.2.2.2.2.2.2.2.2.2.2.2.2.2.2.2))⟩
  have sk1 := hs.trans gsk1
  refine go_iconst (v := 0) dRef_head_89 (by decide) ?_
  refine go_istore dRef_head_90 ?_
  refine l_Ref_head3 (g := (upd (upd (upd (upd (upd (upd (upd (upd g 0 0) 1 1) 2 a1) 3 a2) 4 a3) 5 a4) 7 0) 10 0)) (A := uA A 0 f) 3 0 (A 2) hnk1 _ (by omega) hRk1 (fun k hk => absurd hk (Nat.not_lt_zero k)) sk1 (fun hx2 dx2 f2 hR2 e2 hs2 => ?_)
  refine go_vret dRef_head_112 rfl ?_ (Nat.le_of_ble_eq_true rfl) (Nat.le_of_ble_eq_true rfl)
  obtain ⟨w5, h5, b5, k5, ho5, rfl, rfl, rfl, rfl⟩ := okHead_n hok
  have hw5 : w5 ≤ 12 ∧ h5 ≤ 12 := ho5.w
  have hb5 : 1 ≤ b5 ∧ b5 ≤ 8 := ho5.b
  have hk5 : k5 < 7 := ho5.k
  exact retR_ok (β := ((true, piNew (w5, h5, b5, k5) α.1.2), α.2)) (by rw [hdF, if_pos hok, nI_clamp (n := w5) (by omega), nI_clamp (n := h5) (by omega), nI_clamp (n := b5) (by omega), nI_clamp (n := k5) (by omega)]) hR2 ⟨⟨(bI_t rfl).symm, fun _ => ⟨⟨rfl, rfl, rfl, rfl⟩, fun x hx y hy u hu => hf _ (pos_lt ho5 hx hy hu), e2⟩, ⟨rfl, fun i hi => absurd hi (Nat.not_lt_zero _)⟩, ⟨rfl, eAr_0⟩⟩, hr.2.1, hr.2.2.1, hr.2.2.2⟩ rfl hs2
set_option maxHeartbeats 4000000 in
theorem r_head {E : pmEv} {h : pmH} {m : Nat} {g : Nat → Int32} {A : Nat → Nat → Int32} {α : aPF} {a1 a2 a3 a4 : Int32} (hR : RfA h m g A) (hr : RR g A α) (hv : IvA α) : Call E mRef_head [.ref m, .int a1, .int a2, .int a3, .int a4] h none 0 0 (RetR m h [0, 1] none (hdF α a1 a2 a3 a4)) := by
  have hs : Sm h h m 17 := Sm.refl _ _ _
  have ho := hr.1
  have ht : g 1 = 0 ↔ ¬ α.1.1 = true := by rw [ho.1]; exact bI_0
  refine call_of (L := [some (.ref m), some (.int a1), some (.int a2), some (.int a3), some (.int a4), none]) ok_mRef_head (Nat.le_of_ble_eq_true rfl) ?_
  refine go_aload_n dRef_head_0 rfl ?_
  refine go_iload_n dRef_head_1 rfl ?_
  refine go_iload_n dRef_head_2 rfl ?_
  refine go_iload_n dRef_head_3 rfl ?_
  refine go_iload dRef_head_4 rfl ?_
  refine go_statP dRef_head_6 ok_mRef_isGood st_mRef_isGood qm_Ref_63 r_isGood ?_ (hnp := np_mRef_isGood)
  refine go_ifeq_b (tgt := 16) dRef_head_9 (fun c1 => ?_) (fun c1 => ?_)
  · refine go_iconst (v := 1) dRef_head_16 (by decide) ?_
    refine go_putf dRef_head_17 qf_Ref_59 pw_8_0 hR.1 rfl rfl ?_
    refine go_aload_n dRef_head_20 rfl ?_
    refine go_getf dRef_head_21 qf_Ref_59 (pmU_s _ _ _) rfl ?_
    refine go_if_le (tgt := 28) dRef_head_24 (fun cc => absurd cc (by decide)) (fun _ => ?_)
    refine go_nm (fun hnk1 enk1 => ?_)
    have gsk1 : Sm h hnk1 m 17 := by rw [enk1]; exact (Sm.put' (Sm.refl _ _ _) _ (by omega) (by omega))
    have hRk1 : RfA hnk1 m (upd g 0 1) (A) := ⟨(congrFun enk1 m).trans (pmU_s _ _ _), (congrFun enk1 (m + 1)).trans ((pmU_n _ _ (by omega)).trans hR.2.1), (congrFun enk1 (m + 2)).trans ((pmU_n _ _ (by omega)).trans hR.2.2.1), (congrFun enk1 (m + 3)).trans ((pmU_n _ _ (by omega)).trans hR.2.2.2.1), (congrFun enk1 (m + 4)).trans ((pmU_n _ _ (by omega)).trans hR.2.2.2.2.1), (congrFun enk1 (m + 5)).trans ((pmU_n _ _ (by omega)).trans hR.2.2.2.2.2.1), (congrFun enk1 (m + 6)).trans ((pmU_n _ _ (by omega)).trans hR.2.2.2.2.2.2.1), (congrFun enk1 (m + 7)).trans ((pmU_n _ _ (by omega)).trans hR.2.2.2.2.2.2.2.1), (congrFun enk1 (m + 8)).trans ((pmU_n _ _ (by omega)).trans hR.2.2.2.2.2.2.2.2.1), (congrFun enk1 (m + 9)).trans ((pmU_n _ _ (by omega)).trans hR.2.2.2.2.2.2.2.2.2.1), (congrFun enk1 (m + 10)).trans ((pmU_n _ _ (by omega)).trans hR.2.2.2.2.2.2.2.2.2.2.1), (congrFun enk1 (m + 11)).trans ((pmU_n _ _ (by omega)).trans hR.2.2.2.2.2.2.2.2.2.2.2.1), (congrFun enk1 (m + 12)).trans ((pmU_n _ _ (by omega)).trans hR.2.2.2.2.2.2.2.2.2.2.2.2.1), (congrFun enk1 (m + 13)).trans ((pmU_n _ _ (by omega)).trans hR.2.2.2.2.2.2.2.2.2.2.2.2.2.1), (congrFun enk1 (m + 14)).trans ((pmU_n _ _ (by omega)).trans hR.2.2.2.2.2.2.2.2.2.2.2.2.2.2.1), (congrFun enk1 (m + 15)).trans ((pmU_n _ _ (by omega)).trans hR.2.2.2.2.2.2.2.2.2.2.2.2.2.2.2.1), (congrFun enk1 (m + 16)).trans ((pmU_n _ _ (by omega)).trans hR.2.2.2.2.2.2.2.2.2.2.2.2.2.2.2.2)⟩
    have sk1 := hs.trans gsk1
    refine go_vret dRef_head_27 rfl ?_ (Nat.le_of_ble_eq_true rfl) (Nat.le_of_ble_eq_true rfl)
    exact retR_no (by rw [hdF, if_neg c1]) hRk1 hr rfl sk1
  · refine go_iconst (v := 0) dRef_head_12 (by decide) ?_
    refine go_goto (tgt := 17) dRef_head_13 ?_
    refine go_putf dRef_head_17 qf_Ref_59 pw_8_0 hR.1 rfl rfl ?_
    refine go_aload_n dRef_head_20 rfl ?_
    refine go_getf dRef_head_21 qf_Ref_59 (pmU_s _ _ _) rfl ?_
    refine go_if_le (tgt := 28) dRef_head_24 (fun _ => ?_) (fun cc => absurd (by decide) cc)
    refine go_aload_n dRef_head_28 rfl ?_
    refine go_iconst (v := 1) dRef_head_29 (by decide) ?_
    refine go_putf dRef_head_30 qf_Ref_67 pw_8_1 (pmU_s _ _ _) rfl rfl ?_
    refine go_aload_n dRef_head_33 rfl ?_
    refine go_iload_n dRef_head_34 rfl ?_
    refine go_putf dRef_head_35 qf_Ref_71 pw_8_2 (pmU_s _ _ _) rfl rfl ?_
    refine go_aload_n dRef_head_38 rfl ?_
    refine go_iload_n dRef_head_39 rfl ?_
    refine go_putf dRef_head_40 qf_Ref_74 pw_8_3 (pmU_s _ _ _) rfl rfl ?_
    refine go_aload_n dRef_head_43 rfl ?_
    refine go_iload_n dRef_head_44 rfl ?_
    refine go_putf dRef_head_45 qf_Ref_77 pw_8_4 (pmU_s _ _ _) rfl rfl ?_
    refine go_aload_n dRef_head_48 rfl ?_
    refine go_iload dRef_head_49 rfl ?_
    refine go_putf dRef_head_51 qf_Ref_80 pw_8_5 (pmU_s _ _ _) rfl rfl ?_
    refine go_nm (fun hnk2 enk2 => ?_)
    have gsk2 : Sm h hnk2 m 17 := by rw [enk2]; exact (Sm.put' (Sm.put' (Sm.put' (Sm.put' (Sm.put' (Sm.put' (Sm.refl _ _ _) _ (by omega) (by omega)) _ (by omega) (by omega)) _ (by omega) (by omega)) _ (by omega) (by omega)) _ (by omega) (by omega)) _ (by omega) (by omega))
    have hRk2 : RfA hnk2 m ((upd (upd (upd (upd (upd (upd g 0 0) 1 1) 2 a1) 3 a2) 4 a3) 5 a4)) (A) := ⟨(congrFun enk2 m).trans (pmU_s _ _ _), (congrFun enk2 (m + 1)).trans ((pmU_n _ _ (by omega)).trans ((pmU_n _ _ (by omega)).trans ((pmU_n _ _ (by omega)).trans ((pmU_n _ _ (by omega)).trans ((pmU_n _ _ (by omega)).trans ((pmU_n _ _ (by omega)).trans hR.2.1)))))), (congrFun enk2 (m + 2)).trans ((pmU_n _ _ (by omega)).trans ((pmU_n _ _ (by omega)).trans ((pmU_n _ _ (by omega)).trans ((pmU_n _ _ (by omega)).trans ((pmU_n _ _ (by omega)).trans ((pmU_n _ _ (by omega)).trans hR.2.2.1)))))), (congrFun enk2 (m + 3)).trans ((pmU_n _ _ (by omega)).trans ((pmU_n _ _ (by omega)).trans ((pmU_n _ _ (by omega)).trans ((pmU_n _ _ (by omega)).trans ((pmU_n _ _ (by omega)).trans ((pmU_n _ _ (by omega)).trans hR.2.2.2.1)))))), (congrFun enk2 (m + 4)).trans ((pmU_n _ _ (by omega)).trans ((pmU_n _ _ (by omega)).trans ((pmU_n _ _ (by omega)).trans ((pmU_n _ _ (by omega)).trans ((pmU_n _ _ (by omega)).trans ((pmU_n _ _ (by omega)).trans hR.2.2.2.2.1)))))), (congrFun enk2 (m + 5)).trans ((pmU_n _ _ (by omega)).trans ((pmU_n _ _ (by omega)).trans ((pmU_n _ _ (by omega)).trans ((pmU_n _ _ (by omega)).trans ((pmU_n _ _ (by omega)).trans ((pmU_n _ _ (by omega)).trans hR.2.2.2.2.2.1)))))), (congrFun enk2 (m + 6)).trans ((pmU_n _ _ (by omega)).trans ((pmU_n _ _ (by omega)).trans ((pmU_n _ _ (by omega)).trans ((pmU_n _ _ (by omega)).trans ((pmU_n _ _ (by omega)).trans ((pmU_n _ _ (by omega)).trans hR.2.2.2.2.2.2.1)))))), (congrFun enk2 (m + 7)).trans ((pmU_n _ _ (by omega)).trans ((pmU_n _ _ (by omega)).trans ((pmU_n _ _ (by omega)).trans ((pmU_n _ _ (by omega)).trans ((pmU_n _ _ (by omega)).trans ((pmU_n _ _ (by omega)).trans hR.2.2.2.2.2.2.2.1)))))), (congrFun enk2 (m + 8)).trans ((pmU_n _ _ (by omega)).trans ((pmU_n _ _ (by omega)).trans ((pmU_n _ _ (by omega)).trans ((pmU_n _ _ (by omega)).trans ((pmU_n _ _ (by omega)).trans ((pmU_n _ _ (by omega)).trans hR.2.2.2.2.2.2.2.2.1)))))), (congrFun enk2 (m + 9)).trans ((pmU_n _ _ (by omega)).trans ((pmU_n _ _ (by omega)).trans ((pmU_n _ _ (by omega)).trans ((pmU_n _ _ (by omega)).trans ((pmU_n _ _ (by omega)).trans ((pmU_n _ _ (by omega)).trans hR.2.2.2.2.2.2.2.2.2.1)))))), (congrFun enk2 (m + 10)).trans ((pmU_n _ _ (by omega)).trans ((pmU_n _ _ (by omega)).trans ((pmU_n _ _ (by omega)).trans ((pmU_n _ _ (by omega)).trans ((pmU_n _ _ (by omega)).trans ((pmU_n _ _ (by omega)).trans hR.2.2.2.2.2.2.2.2.2.2.1)))))), (congrFun enk2 (m + 11)).trans ((pmU_n _ _ (by omega)).trans ((pmU_n _ _ (by omega)).trans ((pmU_n _ _ (by omega)).trans ((pmU_n _ _ (by omega)).trans ((pmU_n _ _ (by omega)).trans ((pmU_n _ _ (by omega)).trans hR.2.2.2.2.2.2.2.2.2.2.2.1)))))), (congrFun enk2 (m + 12)).trans ((pmU_n _ _ (by omega)).trans ((pmU_n _ _ (by omega)).trans ((pmU_n _ _ (by omega)).trans ((pmU_n _ _ (by omega)).trans ((pmU_n _ _ (by omega)).trans ((pmU_n _ _ (by omega)).trans hR.2.2.2.2.2.2.2.2.2.2.2.2.1)))))), (congrFun enk2 (m + 13)).trans ((pmU_n _ _ (by omega)).trans ((pmU_n _ _ (by omega)).trans ((pmU_n _ _ (by omega)).trans ((pmU_n _ _ (by omega)).trans ((pmU_n _ _ (by omega)).trans ((pmU_n _ _ (by omega)).trans hR.2.2.2.2.2.2.2.2.2.2.2.2.2.1)))))), (congrFun enk2 (m + 14)).trans ((pmU_n _ _ (by omega)).trans ((pmU_n _ _ (by omega)).trans ((pmU_n _ _ (by omega)).trans ((pmU_n _ _ (by omega)).trans ((pmU_n _ _ (by omega)).trans ((pmU_n _ _ (by omega)).trans hR.2.2.2.2.2.2.2.2.2.2.2.2.2.2.1)))))), (congrFun enk2 (m + 15)).trans ((pmU_n _ _ (by omega)).trans ((pmU_n _ _ (by omega)).trans ((pmU_n _ _ (by omega)).trans ((pmU_n _ _ (by omega)).trans ((pmU_n _ _ (by omega)).trans ((pmU_n _ _ (by omega)).trans hR.2.2.2.2.2.2.2.2.2.2.2.2.2.2.2.1)))))), (congrFun enk2 (m + 16)).trans ((pmU_n _ _ (by omega)).trans ((pmU_n _ _ (by omega)).trans ((pmU_n _ _ (by omega)).trans ((pmU_n _ _ (by omega)).trans ((pmU_n _ _ (by omega)).trans ((pmU_n _ _ (by omega)).trans hR.2.2.2.2.2.2.2.2.2.2.2.2.2.2.2.2))))))⟩
    have sk2 := hs.trans gsk2
    refine go_iconst (v := 0) dRef_head_54 (by decide) ?_
    refine go_istore dRef_head_55 ?_
    refine l_Ref_head1 576 0 (A 0) hnk2 _ (by omega) hRk2 (fun k hk => absurd hk (Nat.not_lt_zero k)) sk2 (fun hx2 dx2 f2 hR2 e2 hs2 => ?_)
    exact l_Ref_head2 (z := none) hr c1 hR2 e2 hs2
set_option maxHeartbeats 4000000 in
theorem l_Ref_pass {E : pmEv} {h0 : pmH} {m : Nat} {g : Nat → Int32} {A : Nat → Nat → Int32} {α : aPF} {f e : Nat} {a2 : Int32} {C : aRow} (hr : RR g A α) (hw15 : α.2.1.2 ≤ 1115) (hfe : f + e ≤ α.2.1.2) : ∀ (n : Nat) (i : Nat) (q : aRow) (fq : Nat → Int32) (h : pmH) (d : Bool), i + n = e → q.2 + n ≤ 2000 → RfA h m (upd (upd g 0 0) 32 (nI q.2)) (uA A 13 fq) → Ag q.2 fq q.1 → Sm h0 h m 17 → C = wAs α.2.1.1 (f + i) n q → Go E (mRef_pass, h0, 0, 0) 95 [some (.ref m), some (.int (nI f)), some (.int a2), some (.int (nI e)), some (.int (nI (i)))] [] (h, none, d) 0 0 (RetR m h0 [0, 2, 1, 3] (some (.int 0)) (.inl (some (.int (nI e))), (α.1, α.2.1, C, α.2.2.2))) := by
  intro n
  induction n with
  | zero =>
    intro i q fq h d hi hl hR hq hs hC
    refine go_iload dRef_pass_95 rfl ?_
    refine go_iload_n dRef_pass_97 rfl ?_
    refine go_icmp_ge (tgt := 142) dRef_pass_98 (fun c1 => ?_) (fun c1 => ?_)
    · refine go_aload_n dRef_pass_142 rfl ?_
      refine go_getf dRef_pass_143 qf_Ref_59 hR.1 rfl ?_
      refine go_if_le (tgt := 153) dRef_pass_146 (fun c2 => ?_) (fun c2 => ?_)
      · refine go_iload_n dRef_pass_153 rfl ?_
        refine go_iret dRef_pass_154 rfl rfl ?_ (Nat.le_of_ble_eq_true rfl) (Nat.le_of_ble_eq_true rfl)
        rw [show C = q from hC]
        exact retR_ok (β := (α.1, α.2.1, q, α.2.2.2)) rfl hR ⟨hr.1, hr.2.1, ⟨rfl, hq⟩, hr.2.2.2⟩ rfl hs
      · refine go_iconst (v := 0) dRef_pass_149 (by decide) ?_
        refine go_goto (tgt := 154) dRef_pass_150 ?_
        refine go_iret dRef_pass_154 rfl rfl ?_ (Nat.le_of_ble_eq_true rfl) (Nat.le_of_ble_eq_true rfl)
        exact absurd (show (0 : Int32) ≤ 0 by decide) c2
    · exact absurd (nI_le (a := e) (b := i) (by omega) (by omega)) c1
  | succ n ih =>
    intro i q fq h d hi hl hR hq hs hC
    refine go_iload dRef_pass_95 rfl ?_
    refine go_iload_n dRef_pass_97 rfl ?_
    refine go_icmp_ge (tgt := 142) dRef_pass_98 (fun c1 => ?_) (fun c1 => ?_)
    · exact absurd c1 (nI_ge (a := i) (b := e) (by omega) (by omega))
    · refine go_aload_n dRef_pass_101 rfl ?_
      refine go_getf dRef_pass_102 qf_Ref_59 hR.1 rfl ?_
      refine go_if_ne (tgt := 142) dRef_pass_105 (fun c2 => ?_) (fun c2 => ?_)
      · exact absurd rfl c2
      · refine go_aload_n dRef_pass_108 rfl ?_
        refine go_getf dRef_pass_109 qf_Ref_49 hR.1 rfl ?_
        refine go_aload_n dRef_pass_112 rfl ?_
        refine go_getf dRef_pass_113 qf_Ref_196 hR.1 rfl ?_
        refine go_top (y := nI q.2) (by exact rfl) ?_
        refine go_aload_n dRef_pass_116 rfl ?_
        refine go_getf dRef_pass_117 qf_Ref_46 hR.1 rfl ?_
        refine go_iload_n dRef_pass_120 rfl ?_
        refine go_iload dRef_pass_121 rfl ?_
        refine go_iadd dRef_pass_123 ?_
        refine go_top (y := nI (f + i)) (by exact nI_add _ _) ?_
        refine go_iald dRef_pass_124 hR.2.2.2.2.2.2.2.2.2.2.2.2.2.1 (by exact vp_in_nI (by omega) (by omega)) (congrArg _ (nI_clamp (by omega))) ?_
        refine go_iast dRef_pass_125 hR.2.2.2.2.2.2.2.2.2.2.2.2.2.2.1 (by exact vp_in_nI (by omega) (by omega)) (nI_clamp (by omega)) ?_
        refine go_aload_n dRef_pass_126 rfl ?_
        refine go_dup dRef_pass_127 rfl ?_
        refine go_getf dRef_pass_128 qf_Ref_196 ((pmU_n _ _ (by omega)).trans hR.1) rfl ?_
        refine go_iconst (v := 1) dRef_pass_131 (by decide) ?_
        refine go_iadd dRef_pass_132 ?_
        refine go_top (y := nI (q.2 + 1)) (by exact nI_a1 q.2) ?_
        refine go_putf dRef_pass_133 qf_Ref_196 pw_8_32 ((pmU_n _ _ (by omega)).trans hR.1) rfl rfl ?_
        refine go_iinc dRef_pass_136 rfl (congrArg (_ + ·) lit1) ?_
        refine go_goto (tgt := 95) dRef_pass_139 ?_
        refine go_nm (fun hnk1 enk1 => ?_)
        have gsk1 : Sm h hnk1 m 17 := by rw [enk1]; exact (Sm.put' (Sm.put' (Sm.refl _ _ _) _ (by omega) (by omega)) _ (by omega) (by omega))
        have hRk1 : RfA hnk1 m ((upd (upd g 0 0) 32 (nI (q.2 + 1)))) ((uA A 13 (upd fq q.2 (A 12 (f + i))))) := ⟨(congrFun enk1 m).trans (pmU_s _ _ _), (congrFun enk1 (m + 1)).trans ((pmU_n _ _ (by omega)).trans ((pmU_n _ _ (by omega)).trans hR.2.1)), (congrFun enk1 (m + 2)).trans ((pmU_n _ _ (by omega)).trans ((pmU_n _ _ (by omega)).trans hR.2.2.1)), (congrFun enk1 (m + 3)).trans ((pmU_n _ _ (by omega)).trans ((pmU_n _ _ (by omega)).trans hR.2.2.2.1)), (congrFun enk1 (m + 4)).trans ((pmU_n _ _ (by omega)).trans ((pmU_n _ _ (by omega)).trans hR.2.2.2.2.1)), (congrFun enk1 (m + 5)).trans ((pmU_n _ _ (by omega)).trans ((pmU_n _ _ (by omega)).trans hR.2.2.2.2.2.1)), (congrFun enk1 (m + 6)).trans ((pmU_n _ _ (by omega)).trans ((pmU_n _ _ (by omega)).trans hR.2.2.2.2.2.2.1)), (congrFun enk1 (m + 7)).trans ((pmU_n _ _ (by omega)).trans ((pmU_n _ _ (by omega)).trans hR.2.2.2.2.2.2.2.1)), (congrFun enk1 (m + 8)).trans ((pmU_n _ _ (by omega)).trans ((pmU_n _ _ (by omega)).trans hR.2.2.2.2.2.2.2.2.1)), (congrFun enk1 (m + 9)).trans ((pmU_n _ _ (by omega)).trans ((pmU_n _ _ (by omega)).trans hR.2.2.2.2.2.2.2.2.2.1)), (congrFun enk1 (m + 10)).trans ((pmU_n _ _ (by omega)).trans ((pmU_n _ _ (by omega)).trans hR.2.2.2.2.2.2.2.2.2.2.1)), (congrFun enk1 (m + 11)).trans ((pmU_n _ _ (by omega)).trans ((pmU_n _ _ (by omega)).trans hR.2.2.2.2.2.2.2.2.2.2.2.1)), (congrFun enk1 (m + 12)).trans ((pmU_n _ _ (by omega)).trans ((pmU_n _ _ (by omega)).trans hR.2.2.2.2.2.2.2.2.2.2.2.2.1)), (congrFun enk1 (m + 13)).trans ((pmU_n _ _ (by omega)).trans ((pmU_n _ _ (by omega)).trans hR.2.2.2.2.2.2.2.2.2.2.2.2.2.1)), (congrFun enk1 (m + 14)).trans ((pmU_n _ _ (by omega)).trans (pmU_s _ _ _)), (congrFun enk1 (m + 15)).trans ((pmU_n _ _ (by omega)).trans ((pmU_n _ _ (by omega)).trans hR.2.2.2.2.2.2.2.2.2.2.2.2.2.2.2.1)), (congrFun enk1 (m + 16)).trans ((pmU_n _ _ (by omega)).trans ((pmU_n _ _ (by omega)).trans hR.2.2.2.2.2.2.2.2.2.2.2.2.2.2.2.2))⟩
        have sk1 := hs.trans gsk1
        exact go_at (ih (i + 1) (wA q (A 12 (f + i))) _ _ _ (by omega) (show q.2 + 1 + n ≤ 2000 by omega) hRk1 (hq.push _) sk1 (by rw [hC, wAs, hr.2.1.2 (f + i) (by omega)]; rfl)) rfl (by rw [nI_succ i]; rfl) rfl rfl
set_option maxHeartbeats 4000000 in
theorem r_pass {E : pmEv} {h : pmH} {m : Nat} {g : Nat → Int32} {A : Nat → Nat → Int32} {α : aPF} {a1 a2 : Int32} (hR : RfA h m g A) (hr : RR g A α) (hv : IvA α) : Call E mRef_pass [.ref m, .int a1, .int a2] h none 0 0 (RetR m h [0, 2, 1, 3] (some (.int 0)) (paF α a1 a2)) := by
  have hs : Sm h h m 17 := Sm.refl _ _ _
  have ho := hr.1
  have ht : g 1 = 0 ↔ ¬ α.1.1 = true := by rw [ho.1]; exact bI_0
  have hw15 := hv.2.1.1
  have hf20 := hv.2.2.1.1
  have hw := hr.2.1
  have hf := hr.2.2.1
  refine call_of (L := [some (.ref m), some (.int a1), some (.int a2), none, none]) ok_mRef_pass (Nat.le_of_ble_eq_true rfl) ?_
  refine go_aload_n dRef_pass_0 rfl ?_
  refine go_iload_n dRef_pass_1 rfl ?_
  refine go_if_lt (tgt := 13) dRef_pass_2 (fun c1 => ?_) (fun c1 => ?_)
  · refine go_iconst (v := 1) dRef_pass_13 (by decide) ?_
    refine go_goto (tgt := 26) dRef_pass_14 ?_
    refine go_putf dRef_pass_26 qf_Ref_59 pw_8_0 hR.1 rfl rfl ?_
    refine go_aload_n dRef_pass_29 rfl ?_
    refine go_getf dRef_pass_30 qf_Ref_59 (pmU_s _ _ _) rfl ?_
    refine go_if_le (tgt := 40) dRef_pass_33 (fun cc => absurd cc (by decide)) (fun _ => ?_)
    refine go_iconst (v := 0) dRef_pass_36 (by decide) ?_
    refine go_goto (tgt := 60) dRef_pass_37 ?_
    skip
    refine go_istore_n dRef_pass_60 ?_
    refine go_aload_n dRef_pass_61 rfl ?_
    refine go_aload_n dRef_pass_62 rfl ?_
    refine go_getf dRef_pass_63 qf_Ref_59 (pmU_s _ _ _) rfl ?_
    refine go_if_ne (tgt := 85) dRef_pass_66 (fun _ => ?_) (fun cc => absurd cc (by decide))
    refine go_aload_n dRef_pass_85 rfl ?_
    refine go_getf dRef_pass_86 qf_Ref_59 (pmU_s _ _ _) rfl ?_
    refine go_putf dRef_pass_89 qf_Ref_59 pw_8_0 (pmU_s _ _ _) rfl rfl ?_
    refine go_iconst (v := 0) dRef_pass_92 (by decide) ?_
    refine go_istore dRef_pass_93 ?_
    refine go_iload dRef_pass_95 rfl ?_
    refine go_iload_n dRef_pass_97 rfl ?_
    refine go_icmp_ge (tgt := 142) dRef_pass_98 (fun c2 => ?_) (fun c2 => ?_)
    · refine go_aload_n dRef_pass_142 rfl ?_
      refine go_getf dRef_pass_143 qf_Ref_59 (pmU_s _ _ _) rfl ?_
      refine go_if_le (tgt := 153) dRef_pass_146 (fun cc => absurd cc (by decide)) (fun _ => ?_)
      refine go_iconst (v := 0) dRef_pass_149 (by decide) ?_
      refine go_goto (tgt := 154) dRef_pass_150 ?_
      refine go_nm (fun hnk1 enk1 => ?_)
      have gsk1 : Sm h hnk1 m 17 := by rw [enk1]; exact (Sm.put' (Sm.put' (Sm.refl _ _ _) _ (by omega) (by omega)) _ (by omega) (by omega))
      have hRk1 : RfA hnk1 m (upd g 0 1) (A) := ⟨(congrFun enk1 m).trans (pmU_s _ _ _), (congrFun enk1 (m + 1)).trans ((pmU_n _ _ (by omega)).trans ((pmU_n _ _ (by omega)).trans hR.2.1)), (congrFun enk1 (m + 2)).trans ((pmU_n _ _ (by omega)).trans ((pmU_n _ _ (by omega)).trans hR.2.2.1)), (congrFun enk1 (m + 3)).trans ((pmU_n _ _ (by omega)).trans ((pmU_n _ _ (by omega)).trans hR.2.2.2.1)), (congrFun enk1 (m + 4)).trans ((pmU_n _ _ (by omega)).trans ((pmU_n _ _ (by omega)).trans hR.2.2.2.2.1)), (congrFun enk1 (m + 5)).trans ((pmU_n _ _ (by omega)).trans ((pmU_n _ _ (by omega)).trans hR.2.2.2.2.2.1)), (congrFun enk1 (m + 6)).trans ((pmU_n _ _ (by omega)).trans ((pmU_n _ _ (by omega)).trans hR.2.2.2.2.2.2.1)), (congrFun enk1 (m + 7)).trans ((pmU_n _ _ (by omega)).trans ((pmU_n _ _ (by omega)).trans hR.2.2.2.2.2.2.2.1)), (congrFun enk1 (m + 8)).trans ((pmU_n _ _ (by omega)).trans ((pmU_n _ _ (by omega)).trans hR.2.2.2.2.2.2.2.2.1)), (congrFun enk1 (m + 9)).trans ((pmU_n _ _ (by omega)).trans ((pmU_n _ _ (by omega)).trans hR.2.2.2.2.2.2.2.2.2.1)), (congrFun enk1 (m + 10)).trans ((pmU_n _ _ (by omega)).trans ((pmU_n _ _ (by omega)).trans hR.2.2.2.2.2.2.2.2.2.2.1)), (congrFun enk1 (m + 11)).trans ((pmU_n _ _ (by omega)).trans ((pmU_n _ _ (by omega)).trans hR.2.2.2.2.2.2.2.2.2.2.2.1)), (congrFun enk1 (m + 12)).trans ((pmU_n _ _ (by omega)).trans ((pmU_n _ _ (by omega)).trans hR.2.2.2.2.2.2.2.2.2.2.2.2.1)), (congrFun enk1 (m + 13)).trans ((pmU_n _ _ (by omega)).trans ((pmU_n _ _ (by omega)).trans hR.2.2.2.2.2.2.2.2.2.2.2.2.2.1)), (congrFun enk1 (m + 14)).trans ((pmU_n _ _ (by omega)).trans ((pmU_n _ _ (by omega)).trans hR.2.2.2.2.2.2.2.2.2.2.2.2.2.2.1)), (congrFun enk1 (m + 15)).trans ((pmU_n _ _ (by omega)).trans ((pmU_n _ _ (by omega)).trans hR.2.2.2.2.2.2.2.2.2.2.2.2.2.2.2.1)), (congrFun enk1 (m + 16)).trans ((pmU_n _ _ (by omega)).trans ((pmU_n _ _ (by omega)).trans hR.2.2.2.2.2.2.2.2.2.2.2.2.2.2.2.2))⟩
      have sk1 := hs.trans gsk1
      refine go_iret dRef_pass_154 rfl rfl ?_ (Nat.le_of_ble_eq_true rfl) (Nat.le_of_ble_eq_true rfl)
      exact retR_no (by rw [paF, if_pos (fun q => absurd q.1 (Int32.not_le.mpr c1))]) hRk1 hr rfl sk1
    · refine go_aload_n dRef_pass_101 rfl ?_
      refine go_getf dRef_pass_102 qf_Ref_59 (pmU_s _ _ _) rfl ?_
      refine go_if_ne (tgt := 142) dRef_pass_105 (fun _ => ?_) (fun cc => absurd cc (by decide))
      refine go_aload_n dRef_pass_142 rfl ?_
      refine go_getf dRef_pass_143 qf_Ref_59 (pmU_s _ _ _) rfl ?_
      refine go_if_le (tgt := 153) dRef_pass_146 (fun cc => absurd cc (by decide)) (fun _ => ?_)
      refine go_iconst (v := 0) dRef_pass_149 (by decide) ?_
      refine go_goto (tgt := 154) dRef_pass_150 ?_
      refine go_nm (fun hnk2 enk2 => ?_)
      have gsk2 : Sm h hnk2 m 17 := by rw [enk2]; exact (Sm.put' (Sm.put' (Sm.refl _ _ _) _ (by omega) (by omega)) _ (by omega) (by omega))
      have hRk2 : RfA hnk2 m (upd g 0 1) (A) := ⟨(congrFun enk2 m).trans (pmU_s _ _ _), (congrFun enk2 (m + 1)).trans ((pmU_n _ _ (by omega)).trans ((pmU_n _ _ (by omega)).trans hR.2.1)), (congrFun enk2 (m + 2)).trans ((pmU_n _ _ (by omega)).trans ((pmU_n _ _ (by omega)).trans hR.2.2.1)), (congrFun enk2 (m + 3)).trans ((pmU_n _ _ (by omega)).trans ((pmU_n _ _ (by omega)).trans hR.2.2.2.1)), (congrFun enk2 (m + 4)).trans ((pmU_n _ _ (by omega)).trans ((pmU_n _ _ (by omega)).trans hR.2.2.2.2.1)), (congrFun enk2 (m + 5)).trans ((pmU_n _ _ (by omega)).trans ((pmU_n _ _ (by omega)).trans hR.2.2.2.2.2.1)), (congrFun enk2 (m + 6)).trans ((pmU_n _ _ (by omega)).trans ((pmU_n _ _ (by omega)).trans hR.2.2.2.2.2.2.1)), (congrFun enk2 (m + 7)).trans ((pmU_n _ _ (by omega)).trans ((pmU_n _ _ (by omega)).trans hR.2.2.2.2.2.2.2.1)), (congrFun enk2 (m + 8)).trans ((pmU_n _ _ (by omega)).trans ((pmU_n _ _ (by omega)).trans hR.2.2.2.2.2.2.2.2.1)), (congrFun enk2 (m + 9)).trans ((pmU_n _ _ (by omega)).trans ((pmU_n _ _ (by omega)).trans hR.2.2.2.2.2.2.2.2.2.1)), (congrFun enk2 (m + 10)).trans ((pmU_n _ _ (by omega)).trans ((pmU_n _ _ (by omega)).trans hR.2.2.2.2.2.2.2.2.2.2.1)), (congrFun enk2 (m + 11)).trans ((pmU_n _ _ (by omega)).trans ((pmU_n _ _ (by omega)).trans hR.2.2.2.2.2.2.2.2.2.2.2.1)), (congrFun enk2 (m + 12)).trans ((pmU_n _ _ (by omega)).trans ((pmU_n _ _ (by omega)).trans hR.2.2.2.2.2.2.2.2.2.2.2.2.1)), (congrFun enk2 (m + 13)).trans ((pmU_n _ _ (by omega)).trans ((pmU_n _ _ (by omega)).trans hR.2.2.2.2.2.2.2.2.2.2.2.2.2.1)), (congrFun enk2 (m + 14)).trans ((pmU_n _ _ (by omega)).trans ((pmU_n _ _ (by omega)).trans hR.2.2.2.2.2.2.2.2.2.2.2.2.2.2.1)), (congrFun enk2 (m + 15)).trans ((pmU_n _ _ (by omega)).trans ((pmU_n _ _ (by omega)).trans hR.2.2.2.2.2.2.2.2.2.2.2.2.2.2.2.1)), (congrFun enk2 (m + 16)).trans ((pmU_n _ _ (by omega)).trans ((pmU_n _ _ (by omega)).trans hR.2.2.2.2.2.2.2.2.2.2.2.2.2.2.2.2))⟩
      have sk2 := hs.trans gsk2
      refine go_iret dRef_pass_154 rfl rfl ?_ (Nat.le_of_ble_eq_true rfl) (Nat.le_of_ble_eq_true rfl)
      exact retR_no (by rw [paF, if_pos (fun q => absurd q.1 (Int32.not_le.mpr c1))]) hRk2 hr rfl sk2
  · refine go_iload_n dRef_pass_5 rfl ?_
    refine go_aload_n dRef_pass_6 rfl ?_
    refine go_getf dRef_pass_7 qf_Ref_147 hR.1 rfl ?_
    refine go_top (y := nI α.2.1.2) (by exact hw.1) ?_
    refine go_icmp_lt (tgt := 17) dRef_pass_10 (fun c2 => ?_) (fun c2 => ?_)
    · obtain ⟨f5, hf5, rfl⟩ := has_ex (by omega) ⟨Int32.not_lt.mp c1, c2⟩
      refine go_iload_n dRef_pass_17 rfl ?_
      refine go_if_ge (tgt := 25) dRef_pass_18 (fun c3 => ?_) (fun c3 => ?_)
      · refine go_iconst (v := 0) dRef_pass_25 (by decide) ?_
        refine go_putf dRef_pass_26 qf_Ref_59 pw_8_0 hR.1 rfl rfl ?_
        refine go_aload_n dRef_pass_29 rfl ?_
        refine go_getf dRef_pass_30 qf_Ref_59 (pmU_s _ _ _) rfl ?_
        refine go_if_le (tgt := 40) dRef_pass_33 (fun _ => ?_) (fun cc => absurd (by decide) cc)
        obtain ⟨m5, hm5, rfl⟩ := nI_of (Int32.not_lt.mpr c3)
        refine go_iload_n dRef_pass_40 rfl ?_
        refine go_aload_n dRef_pass_41 rfl ?_
        refine go_getf dRef_pass_42 qf_Ref_147 (pmU_s _ _ _) rfl ?_
        refine go_iload_n dRef_pass_45 rfl ?_
        refine go_isub dRef_pass_46 ?_
        refine go_top (y := nI (α.2.1.2 - f5)) (by rw [hw.1]; exact pk_sub (by omega)) ?_
        refine go_icmp_ge (tgt := 54) dRef_pass_47 (fun c4 => ?_) (fun c4 => ?_)
        · refine go_aload_n dRef_pass_54 rfl ?_
          refine go_getf dRef_pass_55 qf_Ref_147 (pmU_s _ _ _) rfl ?_
          refine go_iload_n dRef_pass_58 rfl ?_
          refine go_isub dRef_pass_59 ?_
          refine go_top (y := nI (min m5 (α.2.1.2 - f5))) (by rw [hw.1, pk_sub (by omega)]; congr 1; have := (nI_leI (a := α.2.1.2 - f5) (b := m5) (by omega) hm5).mp c4; omega) ?_
          refine go_istore_n dRef_pass_60 ?_
          refine go_aload_n dRef_pass_61 rfl ?_
          refine go_aload_n dRef_pass_62 rfl ?_
          refine go_getf dRef_pass_63 qf_Ref_59 (pmU_s _ _ _) rfl ?_
          refine go_if_ne (tgt := 85) dRef_pass_66 (fun cc => absurd rfl cc) (fun _ => ?_)
          refine go_aload_n dRef_pass_69 rfl ?_
          refine go_getf dRef_pass_70 qf_Ref_196 (pmU_s _ _ _) rfl ?_
          refine go_iload_n dRef_pass_73 rfl ?_
          refine go_iadd dRef_pass_74 ?_
          refine go_top (y := nI (α.2.2.1.2 + (min m5 (α.2.1.2 - f5)))) (by rw [hf.1]; exact nI_add _ _) ?_
          refine go_sipush (v := 2000) dRef_pass_75 (by decide) ?_
          refine go_icmp_le (tgt := 85) dRef_pass_78 (fun c5 => ?_) (fun c5 => ?_)
          · refine go_aload_n dRef_pass_85 rfl ?_
            refine go_getf dRef_pass_86 qf_Ref_59 (pmU_s _ _ _) rfl ?_
            refine go_putf dRef_pass_89 qf_Ref_59 pw_8_0 (pmU_s _ _ _) rfl rfl ?_
            refine go_iconst (v := 0) dRef_pass_92 (by decide) ?_
            refine go_istore dRef_pass_93 ?_
            refine go_nm (fun hnk3 enk3 => ?_)
            have gsk3 : Sm h hnk3 m 17 := by rw [enk3]; exact (Sm.put' (Sm.put' (Sm.refl _ _ _) _ (by omega) (by omega)) _ (by omega) (by omega))
            have hRk3 : RfA hnk3 m ((upd g 0 0)) (A) := ⟨(congrFun enk3 m).trans (pmU_s _ _ _), (congrFun enk3 (m + 1)).trans ((pmU_n _ _ (by omega)).trans ((pmU_n _ _ (by omega)).trans hR.2.1)), (congrFun enk3 (m + 2)).trans ((pmU_n _ _ (by omega)).trans ((pmU_n _ _ (by omega)).trans hR.2.2.1)), (congrFun enk3 (m + 3)).trans ((pmU_n _ _ (by omega)).trans ((pmU_n _ _ (by omega)).trans hR.2.2.2.1)), (congrFun enk3 (m + 4)).trans ((pmU_n _ _ (by omega)).trans ((pmU_n _ _ (by omega)).trans hR.2.2.2.2.1)), (congrFun enk3 (m + 5)).trans ((pmU_n _ _ (by omega)).trans ((pmU_n _ _ (by omega)).trans hR.2.2.2.2.2.1)), (congrFun enk3 (m + 6)).trans ((pmU_n _ _ (by omega)).trans ((pmU_n _ _ (by omega)).trans hR.2.2.2.2.2.2.1)), (congrFun enk3 (m + 7)).trans ((pmU_n _ _ (by omega)).trans ((pmU_n _ _ (by omega)).trans hR.2.2.2.2.2.2.2.1)), (congrFun enk3 (m + 8)).trans ((pmU_n _ _ (by omega)).trans ((pmU_n _ _ (by omega)).trans hR.2.2.2.2.2.2.2.2.1)), (congrFun enk3 (m + 9)).trans ((pmU_n _ _ (by omega)).trans ((pmU_n _ _ (by omega)).trans hR.2.2.2.2.2.2.2.2.2.1)), (congrFun enk3 (m + 10)).trans ((pmU_n _ _ (by omega)).trans ((pmU_n _ _ (by omega)).trans hR.2.2.2.2.2.2.2.2.2.2.1)), (congrFun enk3 (m + 11)).trans ((pmU_n _ _ (by omega)).trans ((pmU_n _ _ (by omega)).trans hR.2.2.2.2.2.2.2.2.2.2.2.1)), (congrFun enk3 (m + 12)).trans ((pmU_n _ _ (by omega)).trans ((pmU_n _ _ (by omega)).trans hR.2.2.2.2.2.2.2.2.2.2.2.2.1)), (congrFun enk3 (m + 13)).trans ((pmU_n _ _ (by omega)).trans ((pmU_n _ _ (by omega)).trans hR.2.2.2.2.2.2.2.2.2.2.2.2.2.1)), (congrFun enk3 (m + 14)).trans ((pmU_n _ _ (by omega)).trans ((pmU_n _ _ (by omega)).trans hR.2.2.2.2.2.2.2.2.2.2.2.2.2.2.1)), (congrFun enk3 (m + 15)).trans ((pmU_n _ _ (by omega)).trans ((pmU_n _ _ (by omega)).trans hR.2.2.2.2.2.2.2.2.2.2.2.2.2.2.2.1)), (congrFun enk3 (m + 16)).trans ((pmU_n _ _ (by omega)).trans ((pmU_n _ _ (by omega)).trans hR.2.2.2.2.2.2.2.2.2.2.2.2.2.2.2.2))⟩
            have sk3 := hs.trans gsk3
            have h5 := (nI_leI (b := 2000) (by omega) (by omega)).mp c5
            exact go_at ((l_Ref_pass (g := g) (A := A) hr hw15 (by omega) (min m5 (α.2.1.2 - f5)) 0 α.2.2.1 (A 13) _ _ (by omega) (by omega) (hf.1 ▸ hRk3) hf.2 sk3 rfl).mono fun o S q => by rw [paF, if_neg (fun q => q ⟨Int32.not_lt.mp c1, c2⟩), if_neg (Int32.not_lt.mpr c3), nI_clamp (n := f5) (by omega), nI_clamp (n := m5) hm5, if_neg (Nat.not_lt.mpr h5)]; exact q) rfl rfl rfl rfl
          · refine go_iconst (v := 3) dRef_pass_81 (by decide) ?_
            refine go_goto (tgt := 89) dRef_pass_82 ?_
            refine go_putf dRef_pass_89 qf_Ref_59 pw_8_0 (pmU_s _ _ _) rfl rfl ?_
            refine go_iconst (v := 0) dRef_pass_92 (by decide) ?_
            refine go_istore dRef_pass_93 ?_
            refine go_iload dRef_pass_95 rfl ?_
            refine go_iload_n dRef_pass_97 rfl ?_
            refine go_icmp_ge (tgt := 142) dRef_pass_98 (fun c6 => ?_) (fun c6 => ?_)
            · refine go_aload_n dRef_pass_142 rfl ?_
              refine go_getf dRef_pass_143 qf_Ref_59 (pmU_s _ _ _) rfl ?_
              refine go_if_le (tgt := 153) dRef_pass_146 (fun cc => absurd cc (by decide)) (fun _ => ?_)
              refine go_iconst (v := 0) dRef_pass_149 (by decide) ?_
              refine go_goto (tgt := 154) dRef_pass_150 ?_
              refine go_nm (fun hnk4 enk4 => ?_)
              have gsk4 : Sm h hnk4 m 17 := by rw [enk4]; exact (Sm.put' (Sm.put' (Sm.refl _ _ _) _ (by omega) (by omega)) _ (by omega) (by omega))
              have hRk4 : RfA hnk4 m (upd g 0 3) (A) := ⟨(congrFun enk4 m).trans (pmU_s _ _ _), (congrFun enk4 (m + 1)).trans ((pmU_n _ _ (by omega)).trans ((pmU_n _ _ (by omega)).trans hR.2.1)), (congrFun enk4 (m + 2)).trans ((pmU_n _ _ (by omega)).trans ((pmU_n _ _ (by omega)).trans hR.2.2.1)), (congrFun enk4 (m + 3)).trans ((pmU_n _ _ (by omega)).trans ((pmU_n _ _ (by omega)).trans hR.2.2.2.1)), (congrFun enk4 (m + 4)).trans ((pmU_n _ _ (by omega)).trans ((pmU_n _ _ (by omega)).trans hR.2.2.2.2.1)), (congrFun enk4 (m + 5)).trans ((pmU_n _ _ (by omega)).trans ((pmU_n _ _ (by omega)).trans hR.2.2.2.2.2.1)), (congrFun enk4 (m + 6)).trans ((pmU_n _ _ (by omega)).trans ((pmU_n _ _ (by omega)).trans hR.2.2.2.2.2.2.1)), (congrFun enk4 (m + 7)).trans ((pmU_n _ _ (by omega)).trans ((pmU_n _ _ (by omega)).trans hR.2.2.2.2.2.2.2.1)), (congrFun enk4 (m + 8)).trans ((pmU_n _ _ (by omega)).trans ((pmU_n _ _ (by omega)).trans hR.2.2.2.2.2.2.2.2.1)), (congrFun enk4 (m + 9)).trans ((pmU_n _ _ (by omega)).trans ((pmU_n _ _ (by omega)).trans hR.2.2.2.2.2.2.2.2.2.1)), (congrFun enk4 (m + 10)).trans ((pmU_n _ _ (by omega)).trans ((pmU_n _ _ (by omega)).trans hR.2.2.2.2.2.2.2.2.2.2.1)), (congrFun enk4 (m + 11)).trans ((pmU_n _ _ (by omega)).trans ((pmU_n _ _ (by omega)).trans hR.2.2.2.2.2.2.2.2.2.2.2.1)), (congrFun enk4 (m + 12)).trans ((pmU_n _ _ (by omega)).trans ((pmU_n _ _ (by omega)).trans hR.2.2.2.2.2.2.2.2.2.2.2.2.1)), (congrFun enk4 (m + 13)).trans ((pmU_n _ _ (by omega)).trans ((pmU_n _ _ (by omega)).trans hR.2.2.2.2.2.2.2.2.2.2.2.2.2.1)), (congrFun enk4 (m + 14)).trans ((pmU_n _ _ (by omega)).trans ((pmU_n _ _ (by omega)).trans hR.2.2.2.2.2.2.2.2.2.2.2.2.2.2.1)), (congrFun enk4 (m + 15)).trans ((pmU_n _ _ (by omega)).trans ((pmU_n _ _ (by omega)).trans hR.2.2.2.2.2.2.2.2.2.2.2.2.2.2.2.1)), (congrFun enk4 (m + 16)).trans ((pmU_n _ _ (by omega)).trans ((pmU_n _ _ (by omega)).trans hR.2.2.2.2.2.2.2.2.2.2.2.2.2.2.2.2))⟩
              have sk4 := hs.trans gsk4
              refine go_iret dRef_pass_154 rfl rfl ?_ (Nat.le_of_ble_eq_true rfl) (Nat.le_of_ble_eq_true rfl)
              exact retR_no (by rw [paF, if_neg (fun q => q ⟨Int32.not_lt.mp c1, c2⟩), if_neg (Int32.not_lt.mpr c3), nI_clamp (n := f5) (by omega), nI_clamp (n := m5) hm5, if_pos (Nat.not_le.mp fun q => c5 (nI_le (b := 2000) q (by omega)))]) hRk4 hr rfl sk4
            · refine go_aload_n dRef_pass_101 rfl ?_
              refine go_getf dRef_pass_102 qf_Ref_59 (pmU_s _ _ _) rfl ?_
              refine go_if_ne (tgt := 142) dRef_pass_105 (fun _ => ?_) (fun cc => absurd cc (by decide))
              refine go_aload_n dRef_pass_142 rfl ?_
              refine go_getf dRef_pass_143 qf_Ref_59 (pmU_s _ _ _) rfl ?_
              refine go_if_le (tgt := 153) dRef_pass_146 (fun cc => absurd cc (by decide)) (fun _ => ?_)
              refine go_iconst (v := 0) dRef_pass_149 (by decide) ?_
              refine go_goto (tgt := 154) dRef_pass_150 ?_
              refine go_nm (fun hnk5 enk5 => ?_)
              have gsk5 : Sm h hnk5 m 17 := by rw [enk5]; exact (Sm.put' (Sm.put' (Sm.refl _ _ _) _ (by omega) (by omega)) _ (by omega) (by omega))
              have hRk5 : RfA hnk5 m (upd g 0 3) (A) := ⟨(congrFun enk5 m).trans (pmU_s _ _ _), (congrFun enk5 (m + 1)).trans ((pmU_n _ _ (by omega)).trans ((pmU_n _ _ (by omega)).trans hR.2.1)), (congrFun enk5 (m + 2)).trans ((pmU_n _ _ (by omega)).trans ((pmU_n _ _ (by omega)).trans hR.2.2.1)), (congrFun enk5 (m + 3)).trans ((pmU_n _ _ (by omega)).trans ((pmU_n _ _ (by omega)).trans hR.2.2.2.1)), (congrFun enk5 (m + 4)).trans ((pmU_n _ _ (by omega)).trans ((pmU_n _ _ (by omega)).trans hR.2.2.2.2.1)), (congrFun enk5 (m + 5)).trans ((pmU_n _ _ (by omega)).trans ((pmU_n _ _ (by omega)).trans hR.2.2.2.2.2.1)), (congrFun enk5 (m + 6)).trans ((pmU_n _ _ (by omega)).trans ((pmU_n _ _ (by omega)).trans hR.2.2.2.2.2.2.1)), (congrFun enk5 (m + 7)).trans ((pmU_n _ _ (by omega)).trans ((pmU_n _ _ (by omega)).trans hR.2.2.2.2.2.2.2.1)), (congrFun enk5 (m + 8)).trans ((pmU_n _ _ (by omega)).trans ((pmU_n _ _ (by omega)).trans hR.2.2.2.2.2.2.2.2.1)), (congrFun enk5 (m + 9)).trans ((pmU_n _ _ (by omega)).trans ((pmU_n _ _ (by omega)).trans hR.2.2.2.2.2.2.2.2.2.1)), (congrFun enk5 (m + 10)).trans ((pmU_n _ _ (by omega)).trans ((pmU_n _ _ (by omega)).trans hR.2.2.2.2.2.2.2.2.2.2.1)), (congrFun enk5 (m + 11)).trans ((pmU_n _ _ (by omega)).trans ((pmU_n _ _ (by omega)).trans hR.2.2.2.2.2.2.2.2.2.2.2.1)), (congrFun enk5 (m + 12)).trans ((pmU_n _ _ (by omega)).trans ((pmU_n _ _ (by omega)).trans hR.2.2.2.2.2.2.2.2.2.2.2.2.1)), (congrFun enk5 (m + 13)).trans ((pmU_n _ _ (by omega)).trans ((pmU_n _ _ (by omega)).trans hR.2.2.2.2.2.2.2.2.2.2.2.2.2.1)), (congrFun enk5 (m + 14)).trans ((pmU_n _ _ (by omega)).trans ((pmU_n _ _ (by omega)).trans hR.2.2.2.2.2.2.2.2.2.2.2.2.2.2.1)), (congrFun enk5 (m + 15)).trans ((pmU_n _ _ (by omega)).trans ((pmU_n _ _ (by omega)).trans hR.2.2.2.2.2.2.2.2.2.2.2.2.2.2.2.1)), (congrFun enk5 (m + 16)).trans ((pmU_n _ _ (by omega)).trans ((pmU_n _ _ (by omega)).trans hR.2.2.2.2.2.2.2.2.2.2.2.2.2.2.2.2))⟩
              have sk5 := hs.trans gsk5
              refine go_iret dRef_pass_154 rfl rfl ?_ (Nat.le_of_ble_eq_true rfl) (Nat.le_of_ble_eq_true rfl)
              exact retR_no (by rw [paF, if_neg (fun q => q ⟨Int32.not_lt.mp c1, c2⟩), if_neg (Int32.not_lt.mpr c3), nI_clamp (n := f5) (by omega), nI_clamp (n := m5) hm5, if_pos (Nat.not_le.mp fun q => c5 (nI_le (b := 2000) q (by omega)))]) hRk5 hr rfl sk5
        · refine go_iload_n dRef_pass_50 rfl ?_
          refine go_goto (tgt := 60) dRef_pass_51 ?_
          refine go_top (y := nI (min m5 (α.2.1.2 - f5))) (by congr 1; have : ¬ (α.2.1.2 - f5 ≤ m5) := fun q => c4 (nI_le q hm5); omega) ?_
          refine go_istore_n dRef_pass_60 ?_
          refine go_aload_n dRef_pass_61 rfl ?_
          refine go_aload_n dRef_pass_62 rfl ?_
          refine go_getf dRef_pass_63 qf_Ref_59 (pmU_s _ _ _) rfl ?_
          refine go_if_ne (tgt := 85) dRef_pass_66 (fun cc => absurd rfl cc) (fun _ => ?_)
          refine go_aload_n dRef_pass_69 rfl ?_
          refine go_getf dRef_pass_70 qf_Ref_196 (pmU_s _ _ _) rfl ?_
          refine go_iload_n dRef_pass_73 rfl ?_
          refine go_iadd dRef_pass_74 ?_
          refine go_top (y := nI (α.2.2.1.2 + (min m5 (α.2.1.2 - f5)))) (by rw [hf.1]; exact nI_add _ _) ?_
          refine go_sipush (v := 2000) dRef_pass_75 (by decide) ?_
          refine go_icmp_le (tgt := 85) dRef_pass_78 (fun c5 => ?_) (fun c5 => ?_)
          · refine go_aload_n dRef_pass_85 rfl ?_
            refine go_getf dRef_pass_86 qf_Ref_59 (pmU_s _ _ _) rfl ?_
            refine go_putf dRef_pass_89 qf_Ref_59 pw_8_0 (pmU_s _ _ _) rfl rfl ?_
            refine go_iconst (v := 0) dRef_pass_92 (by decide) ?_
            refine go_istore dRef_pass_93 ?_
            refine go_nm (fun hnk6 enk6 => ?_)
            have gsk6 : Sm h hnk6 m 17 := by rw [enk6]; exact (Sm.put' (Sm.put' (Sm.refl _ _ _) _ (by omega) (by omega)) _ (by omega) (by omega))
            have hRk6 : RfA hnk6 m ((upd g 0 0)) (A) := ⟨(congrFun enk6 m).trans (pmU_s _ _ _), (congrFun enk6 (m + 1)).trans ((pmU_n _ _ (by omega)).trans ((pmU_n _ _ (by omega)).trans hR.2.1)), (congrFun enk6 (m + 2)).trans ((pmU_n _ _ (by omega)).trans ((pmU_n _ _ (by omega)).trans hR.2.2.1)), (congrFun enk6 (m + 3)).trans ((pmU_n _ _ (by omega)).trans ((pmU_n _ _ (by omega)).trans hR.2.2.2.1)), (congrFun enk6 (m + 4)).trans ((pmU_n _ _ (by omega)).trans ((pmU_n _ _ (by omega)).trans hR.2.2.2.2.1)), (congrFun enk6 (m + 5)).trans ((pmU_n _ _ (by omega)).trans ((pmU_n _ _ (by omega)).trans hR.2.2.2.2.2.1)), (congrFun enk6 (m + 6)).trans ((pmU_n _ _ (by omega)).trans ((pmU_n _ _ (by omega)).trans hR.2.2.2.2.2.2.1)), (congrFun enk6 (m + 7)).trans ((pmU_n _ _ (by omega)).trans ((pmU_n _ _ (by omega)).trans hR.2.2.2.2.2.2.2.1)), (congrFun enk6 (m + 8)).trans ((pmU_n _ _ (by omega)).trans ((pmU_n _ _ (by omega)).trans hR.2.2.2.2.2.2.2.2.1)), (congrFun enk6 (m + 9)).trans ((pmU_n _ _ (by omega)).trans ((pmU_n _ _ (by omega)).trans hR.2.2.2.2.2.2.2.2.2.1)), (congrFun enk6 (m + 10)).trans ((pmU_n _ _ (by omega)).trans ((pmU_n _ _ (by omega)).trans hR.2.2.2.2.2.2.2.2.2.2.1)), (congrFun enk6 (m + 11)).trans ((pmU_n _ _ (by omega)).trans ((pmU_n _ _ (by omega)).trans hR.2.2.2.2.2.2.2.2.2.2.2.1)), (congrFun enk6 (m + 12)).trans ((pmU_n _ _ (by omega)).trans ((pmU_n _ _ (by omega)).trans hR.2.2.2.2.2.2.2.2.2.2.2.2.1)), (congrFun enk6 (m + 13)).trans ((pmU_n _ _ (by omega)).trans ((pmU_n _ _ (by omega)).trans hR.2.2.2.2.2.2.2.2.2.2.2.2.2.1)), (congrFun enk6 (m + 14)).trans ((pmU_n _ _ (by omega)).trans ((pmU_n _ _ (by omega)).trans hR.2.2.2.2.2.2.2.2.2.2.2.2.2.2.1)), (congrFun enk6 (m + 15)).trans ((pmU_n _ _ (by omega)).trans ((pmU_n _ _ (by omega)).trans hR.2.2.2.2.2.2.2.2.2.2.2.2.2.2.2.1)), (congrFun enk6 (m + 16)).trans ((pmU_n _ _ (by omega)).trans ((pmU_n _ _ (by omega)).trans hR.2.2.2.2.2.2.2.2.2.2.2.2.2.2.2.2))⟩
            have sk6 := hs.trans gsk6
            have h5 := (nI_leI (b := 2000) (by omega) (by omega)).mp c5
            exact go_at ((l_Ref_pass (g := g) (A := A) hr hw15 (by omega) (min m5 (α.2.1.2 - f5)) 0 α.2.2.1 (A 13) _ _ (by omega) (by omega) (hf.1 ▸ hRk6) hf.2 sk6 rfl).mono fun o S q => by rw [paF, if_neg (fun q => q ⟨Int32.not_lt.mp c1, c2⟩), if_neg (Int32.not_lt.mpr c3), nI_clamp (n := f5) (by omega), nI_clamp (n := m5) hm5, if_neg (Nat.not_lt.mpr h5)]; exact q) rfl rfl rfl rfl
          · refine go_iconst (v := 3) dRef_pass_81 (by decide) ?_
            refine go_goto (tgt := 89) dRef_pass_82 ?_
            refine go_putf dRef_pass_89 qf_Ref_59 pw_8_0 (pmU_s _ _ _) rfl rfl ?_
            refine go_iconst (v := 0) dRef_pass_92 (by decide) ?_
            refine go_istore dRef_pass_93 ?_
            refine go_iload dRef_pass_95 rfl ?_
            refine go_iload_n dRef_pass_97 rfl ?_
            refine go_icmp_ge (tgt := 142) dRef_pass_98 (fun c6 => ?_) (fun c6 => ?_)
            · refine go_aload_n dRef_pass_142 rfl ?_
              refine go_getf dRef_pass_143 qf_Ref_59 (pmU_s _ _ _) rfl ?_
              refine go_if_le (tgt := 153) dRef_pass_146 (fun cc => absurd cc (by decide)) (fun _ => ?_)
              refine go_iconst (v := 0) dRef_pass_149 (by decide) ?_
              refine go_goto (tgt := 154) dRef_pass_150 ?_
              refine go_nm (fun hnk7 enk7 => ?_)
              have gsk7 : Sm h hnk7 m 17 := by rw [enk7]; exact (Sm.put' (Sm.put' (Sm.refl _ _ _) _ (by omega) (by omega)) _ (by omega) (by omega))
              have hRk7 : RfA hnk7 m (upd g 0 3) (A) := ⟨(congrFun enk7 m).trans (pmU_s _ _ _), (congrFun enk7 (m + 1)).trans ((pmU_n _ _ (by omega)).trans ((pmU_n _ _ (by omega)).trans hR.2.1)), (congrFun enk7 (m + 2)).trans ((pmU_n _ _ (by omega)).trans ((pmU_n _ _ (by omega)).trans hR.2.2.1)), (congrFun enk7 (m + 3)).trans ((pmU_n _ _ (by omega)).trans ((pmU_n _ _ (by omega)).trans hR.2.2.2.1)), (congrFun enk7 (m + 4)).trans ((pmU_n _ _ (by omega)).trans ((pmU_n _ _ (by omega)).trans hR.2.2.2.2.1)), (congrFun enk7 (m + 5)).trans ((pmU_n _ _ (by omega)).trans ((pmU_n _ _ (by omega)).trans hR.2.2.2.2.2.1)), (congrFun enk7 (m + 6)).trans ((pmU_n _ _ (by omega)).trans ((pmU_n _ _ (by omega)).trans hR.2.2.2.2.2.2.1)), (congrFun enk7 (m + 7)).trans ((pmU_n _ _ (by omega)).trans ((pmU_n _ _ (by omega)).trans hR.2.2.2.2.2.2.2.1)), (congrFun enk7 (m + 8)).trans ((pmU_n _ _ (by omega)).trans ((pmU_n _ _ (by omega)).trans hR.2.2.2.2.2.2.2.2.1)), (congrFun enk7 (m + 9)).trans ((pmU_n _ _ (by omega)).trans ((pmU_n _ _ (by omega)).trans hR.2.2.2.2.2.2.2.2.2.1)), (congrFun enk7 (m + 10)).trans ((pmU_n _ _ (by omega)).trans ((pmU_n _ _ (by omega)).trans hR.2.2.2.2.2.2.2.2.2.2.1)), (congrFun enk7 (m + 11)).trans ((pmU_n _ _ (by omega)).trans ((pmU_n _ _ (by omega)).trans hR.2.2.2.2.2.2.2.2.2.2.2.1)), (congrFun enk7 (m + 12)).trans ((pmU_n _ _ (by omega)).trans ((pmU_n _ _ (by omega)).trans hR.2.2.2.2.2.2.2.2.2.2.2.2.1)), (congrFun enk7 (m + 13)).trans ((pmU_n _ _ (by omega)).trans ((pmU_n _ _ (by omega)).trans hR.2.2.2.2.2.2.2.2.2.2.2.2.2.1)), (congrFun enk7 (m + 14)).trans ((pmU_n _ _ (by omega)).trans ((pmU_n _ _ (by omega)).trans hR.2.2.2.2.2.2.2.2.2.2.2.2.2.2.1)), (congrFun enk7 (m + 15)).trans ((pmU_n _ _ (by omega)).trans ((pmU_n _ _ (by omega)).trans hR.2.2.2.2.2.2.2.2.2.2.2.2.2.2.2.1)), (congrFun enk7 (m + 16)).trans ((pmU_n _ _ (by omega)).trans ((pmU_n _ _ (by omega)).trans hR.2.2.2.2.2.2.2.2.2.2.2.2.2.2.2.2))⟩
              have sk7 := hs.trans gsk7
              refine go_iret dRef_pass_154 rfl rfl ?_ (Nat.le_of_ble_eq_true rfl) (Nat.le_of_ble_eq_true rfl)
              exact retR_no (by rw [paF, if_neg (fun q => q ⟨Int32.not_lt.mp c1, c2⟩), if_neg (Int32.not_lt.mpr c3), nI_clamp (n := f5) (by omega), nI_clamp (n := m5) hm5, if_pos (Nat.not_le.mp fun q => c5 (nI_le (b := 2000) q (by omega)))]) hRk7 hr rfl sk7
            · refine go_aload_n dRef_pass_101 rfl ?_
              refine go_getf dRef_pass_102 qf_Ref_59 (pmU_s _ _ _) rfl ?_
              refine go_if_ne (tgt := 142) dRef_pass_105 (fun _ => ?_) (fun cc => absurd cc (by decide))
              refine go_aload_n dRef_pass_142 rfl ?_
              refine go_getf dRef_pass_143 qf_Ref_59 (pmU_s _ _ _) rfl ?_
              refine go_if_le (tgt := 153) dRef_pass_146 (fun cc => absurd cc (by decide)) (fun _ => ?_)
              refine go_iconst (v := 0) dRef_pass_149 (by decide) ?_
              refine go_goto (tgt := 154) dRef_pass_150 ?_
              refine go_nm (fun hnk8 enk8 => ?_)
              have gsk8 : Sm h hnk8 m 17 := by rw [enk8]; exact (Sm.put' (Sm.put' (Sm.refl _ _ _) _ (by omega) (by omega)) _ (by omega) (by omega))
              have hRk8 : RfA hnk8 m (upd g 0 3) (A) := ⟨(congrFun enk8 m).trans (pmU_s _ _ _), (congrFun enk8 (m + 1)).trans ((pmU_n _ _ (by omega)).trans ((pmU_n _ _ (by omega)).trans hR.2.1)), (congrFun enk8 (m + 2)).trans ((pmU_n _ _ (by omega)).trans ((pmU_n _ _ (by omega)).trans hR.2.2.1)), (congrFun enk8 (m + 3)).trans ((pmU_n _ _ (by omega)).trans ((pmU_n _ _ (by omega)).trans hR.2.2.2.1)), (congrFun enk8 (m + 4)).trans ((pmU_n _ _ (by omega)).trans ((pmU_n _ _ (by omega)).trans hR.2.2.2.2.1)), (congrFun enk8 (m + 5)).trans ((pmU_n _ _ (by omega)).trans ((pmU_n _ _ (by omega)).trans hR.2.2.2.2.2.1)), (congrFun enk8 (m + 6)).trans ((pmU_n _ _ (by omega)).trans ((pmU_n _ _ (by omega)).trans hR.2.2.2.2.2.2.1)), (congrFun enk8 (m + 7)).trans ((pmU_n _ _ (by omega)).trans ((pmU_n _ _ (by omega)).trans hR.2.2.2.2.2.2.2.1)), (congrFun enk8 (m + 8)).trans ((pmU_n _ _ (by omega)).trans ((pmU_n _ _ (by omega)).trans hR.2.2.2.2.2.2.2.2.1)), (congrFun enk8 (m + 9)).trans ((pmU_n _ _ (by omega)).trans ((pmU_n _ _ (by omega)).trans hR.2.2.2.2.2.2.2.2.2.1)), (congrFun enk8 (m + 10)).trans ((pmU_n _ _ (by omega)).trans ((pmU_n _ _ (by omega)).trans hR.2.2.2.2.2.2.2.2.2.2.1)), (congrFun enk8 (m + 11)).trans ((pmU_n _ _ (by omega)).trans ((pmU_n _ _ (by omega)).trans hR.2.2.2.2.2.2.2.2.2.2.2.1)), (congrFun enk8 (m + 12)).trans ((pmU_n _ _ (by omega)).trans ((pmU_n _ _ (by omega)).trans hR.2.2.2.2.2.2.2.2.2.2.2.2.1)), (congrFun enk8 (m + 13)).trans ((pmU_n _ _ (by omega)).trans ((pmU_n _ _ (by omega)).trans hR.2.2.2.2.2.2.2.2.2.2.2.2.2.1)), (congrFun enk8 (m + 14)).trans ((pmU_n _ _ (by omega)).trans ((pmU_n _ _ (by omega)).trans hR.2.2.2.2.2.2.2.2.2.2.2.2.2.2.1)), (congrFun enk8 (m + 15)).trans ((pmU_n _ _ (by omega)).trans ((pmU_n _ _ (by omega)).trans hR.2.2.2.2.2.2.2.2.2.2.2.2.2.2.2.1)), (congrFun enk8 (m + 16)).trans ((pmU_n _ _ (by omega)).trans ((pmU_n _ _ (by omega)).trans hR.2.2.2.2.2.2.2.2.2.2.2.2.2.2.2.2))⟩
              have sk8 := hs.trans gsk8
              refine go_iret dRef_pass_154 rfl rfl ?_ (Nat.le_of_ble_eq_true rfl) (Nat.le_of_ble_eq_true rfl)
              exact retR_no (by rw [paF, if_neg (fun q => q ⟨Int32.not_lt.mp c1, c2⟩), if_neg (Int32.not_lt.mpr c3), nI_clamp (n := f5) (by omega), nI_clamp (n := m5) hm5, if_pos (Nat.not_le.mp fun q => c5 (nI_le (b := 2000) q (by omega)))]) hRk8 hr rfl sk8
      · refine go_iconst (v := 2) dRef_pass_21 (by decide) ?_
        refine go_goto (tgt := 26) dRef_pass_22 ?_
        refine go_putf dRef_pass_26 qf_Ref_59 pw_8_0 hR.1 rfl rfl ?_
        refine go_aload_n dRef_pass_29 rfl ?_
        refine go_getf dRef_pass_30 qf_Ref_59 (pmU_s _ _ _) rfl ?_
        refine go_if_le (tgt := 40) dRef_pass_33 (fun cc => absurd cc (by decide)) (fun _ => ?_)
        refine go_iconst (v := 0) dRef_pass_36 (by decide) ?_
        refine go_goto (tgt := 60) dRef_pass_37 ?_
        skip
        refine go_istore_n dRef_pass_60 ?_
        refine go_aload_n dRef_pass_61 rfl ?_
        refine go_aload_n dRef_pass_62 rfl ?_
        refine go_getf dRef_pass_63 qf_Ref_59 (pmU_s _ _ _) rfl ?_
        refine go_if_ne (tgt := 85) dRef_pass_66 (fun _ => ?_) (fun cc => absurd cc (by decide))
        refine go_aload_n dRef_pass_85 rfl ?_
        refine go_getf dRef_pass_86 qf_Ref_59 (pmU_s _ _ _) rfl ?_
        refine go_putf dRef_pass_89 qf_Ref_59 pw_8_0 (pmU_s _ _ _) rfl rfl ?_
        refine go_iconst (v := 0) dRef_pass_92 (by decide) ?_
        refine go_istore dRef_pass_93 ?_
        refine go_iload dRef_pass_95 rfl ?_
        refine go_iload_n dRef_pass_97 rfl ?_
        refine go_icmp_ge (tgt := 142) dRef_pass_98 (fun c4 => ?_) (fun c4 => ?_)
        · refine go_aload_n dRef_pass_142 rfl ?_
          refine go_getf dRef_pass_143 qf_Ref_59 (pmU_s _ _ _) rfl ?_
          refine go_if_le (tgt := 153) dRef_pass_146 (fun cc => absurd cc (by decide)) (fun _ => ?_)
          refine go_iconst (v := 0) dRef_pass_149 (by decide) ?_
          refine go_goto (tgt := 154) dRef_pass_150 ?_
          refine go_nm (fun hnk9 enk9 => ?_)
          have gsk9 : Sm h hnk9 m 17 := by rw [enk9]; exact (Sm.put' (Sm.put' (Sm.refl _ _ _) _ (by omega) (by omega)) _ (by omega) (by omega))
          have hRk9 : RfA hnk9 m (upd g 0 2) (A) := ⟨(congrFun enk9 m).trans (pmU_s _ _ _), (congrFun enk9 (m + 1)).trans ((pmU_n _ _ (by omega)).trans ((pmU_n _ _ (by omega)).trans hR.2.1)), (congrFun enk9 (m + 2)).trans ((pmU_n _ _ (by omega)).trans ((pmU_n _ _ (by omega)).trans hR.2.2.1)), (congrFun enk9 (m + 3)).trans ((pmU_n _ _ (by omega)).trans ((pmU_n _ _ (by omega)).trans hR.2.2.2.1)), (congrFun enk9 (m + 4)).trans ((pmU_n _ _ (by omega)).trans ((pmU_n _ _ (by omega)).trans hR.2.2.2.2.1)), (congrFun enk9 (m + 5)).trans ((pmU_n _ _ (by omega)).trans ((pmU_n _ _ (by omega)).trans hR.2.2.2.2.2.1)), (congrFun enk9 (m + 6)).trans ((pmU_n _ _ (by omega)).trans ((pmU_n _ _ (by omega)).trans hR.2.2.2.2.2.2.1)), (congrFun enk9 (m + 7)).trans ((pmU_n _ _ (by omega)).trans ((pmU_n _ _ (by omega)).trans hR.2.2.2.2.2.2.2.1)), (congrFun enk9 (m + 8)).trans ((pmU_n _ _ (by omega)).trans ((pmU_n _ _ (by omega)).trans hR.2.2.2.2.2.2.2.2.1)), (congrFun enk9 (m + 9)).trans ((pmU_n _ _ (by omega)).trans ((pmU_n _ _ (by omega)).trans hR.2.2.2.2.2.2.2.2.2.1)), (congrFun enk9 (m + 10)).trans ((pmU_n _ _ (by omega)).trans ((pmU_n _ _ (by omega)).trans hR.2.2.2.2.2.2.2.2.2.2.1)), (congrFun enk9 (m + 11)).trans ((pmU_n _ _ (by omega)).trans ((pmU_n _ _ (by omega)).trans hR.2.2.2.2.2.2.2.2.2.2.2.1)), (congrFun enk9 (m + 12)).trans ((pmU_n _ _ (by omega)).trans ((pmU_n _ _ (by omega)).trans hR.2.2.2.2.2.2.2.2.2.2.2.2.1)), (congrFun enk9 (m + 13)).trans ((pmU_n _ _ (by omega)).trans ((pmU_n _ _ (by omega)).trans hR.2.2.2.2.2.2.2.2.2.2.2.2.2.1)), (congrFun enk9 (m + 14)).trans ((pmU_n _ _ (by omega)).trans ((pmU_n _ _ (by omega)).trans hR.2.2.2.2.2.2.2.2.2.2.2.2.2.2.1)), (congrFun enk9 (m + 15)).trans ((pmU_n _ _ (by omega)).trans ((pmU_n _ _ (by omega)).trans hR.2.2.2.2.2.2.2.2.2.2.2.2.2.2.2.1)), (congrFun enk9 (m + 16)).trans ((pmU_n _ _ (by omega)).trans ((pmU_n _ _ (by omega)).trans hR.2.2.2.2.2.2.2.2.2.2.2.2.2.2.2.2))⟩
          have sk9 := hs.trans gsk9
          refine go_iret dRef_pass_154 rfl rfl ?_ (Nat.le_of_ble_eq_true rfl) (Nat.le_of_ble_eq_true rfl)
          exact retR_no (by rw [paF, if_neg (fun q => q ⟨Int32.not_lt.mp c1, c2⟩), if_pos (Int32.not_le.mp c3)]) hRk9 hr rfl sk9
        · refine go_aload_n dRef_pass_101 rfl ?_
          refine go_getf dRef_pass_102 qf_Ref_59 (pmU_s _ _ _) rfl ?_
          refine go_if_ne (tgt := 142) dRef_pass_105 (fun _ => ?_) (fun cc => absurd cc (by decide))
          refine go_aload_n dRef_pass_142 rfl ?_
          refine go_getf dRef_pass_143 qf_Ref_59 (pmU_s _ _ _) rfl ?_
          refine go_if_le (tgt := 153) dRef_pass_146 (fun cc => absurd cc (by decide)) (fun _ => ?_)
          refine go_iconst (v := 0) dRef_pass_149 (by decide) ?_
          refine go_goto (tgt := 154) dRef_pass_150 ?_
          refine go_nm (fun hnk10 enk10 => ?_)
          have gsk10 : Sm h hnk10 m 17 := by rw [enk10]; exact (Sm.put' (Sm.put' (Sm.refl _ _ _) _ (by omega) (by omega)) _ (by omega) (by omega))
          have hRk10 : RfA hnk10 m (upd g 0 2) (A) := ⟨(congrFun enk10 m).trans (pmU_s _ _ _), (congrFun enk10 (m + 1)).trans ((pmU_n _ _ (by omega)).trans ((pmU_n _ _ (by omega)).trans hR.2.1)), (congrFun enk10 (m + 2)).trans ((pmU_n _ _ (by omega)).trans ((pmU_n _ _ (by omega)).trans hR.2.2.1)), (congrFun enk10 (m + 3)).trans ((pmU_n _ _ (by omega)).trans ((pmU_n _ _ (by omega)).trans hR.2.2.2.1)), (congrFun enk10 (m + 4)).trans ((pmU_n _ _ (by omega)).trans ((pmU_n _ _ (by omega)).trans hR.2.2.2.2.1)), (congrFun enk10 (m + 5)).trans ((pmU_n _ _ (by omega)).trans ((pmU_n _ _ (by omega)).trans hR.2.2.2.2.2.1)), (congrFun enk10 (m + 6)).trans ((pmU_n _ _ (by omega)).trans ((pmU_n _ _ (by omega)).trans hR.2.2.2.2.2.2.1)), (congrFun enk10 (m + 7)).trans ((pmU_n _ _ (by omega)).trans ((pmU_n _ _ (by omega)).trans hR.2.2.2.2.2.2.2.1)), (congrFun enk10 (m + 8)).trans ((pmU_n _ _ (by omega)).trans ((pmU_n _ _ (by omega)).trans hR.2.2.2.2.2.2.2.2.1)), (congrFun enk10 (m + 9)).trans ((pmU_n _ _ (by omega)).trans ((pmU_n _ _ (by omega)).trans hR.2.2.2.2.2.2.2.2.2.1)), (congrFun enk10 (m + 10)).trans ((pmU_n _ _ (by omega)).trans ((pmU_n _ _ (by omega)).trans hR.2.2.2.2.2.2.2.2.2.2.1)), (congrFun enk10 (m + 11)).trans ((pmU_n _ _ (by omega)).trans ((pmU_n _ _ (by omega)).trans hR.2.2.2.2.2.2.2.2.2.2.2.1)), (congrFun enk10 (m + 12)).trans ((pmU_n _ _ (by omega)).trans ((pmU_n _ _ (by omega)).trans hR.2.2.2.2.2.2.2.2.2.2.2.2.1)), (congrFun enk10 (m + 13)).trans ((pmU_n _ _ (by omega)).trans ((pmU_n _ _ (by omega)).trans hR.2.2.2.2.2.2.2.2.2.2.2.2.2.1)), (congrFun enk10 (m + 14)).trans ((pmU_n _ _ (by omega)).trans ((pmU_n _ _ (by omega)).trans hR.2.2.2.2.2.2.2.2.2.2.2.2.2.2.1)), (congrFun enk10 (m + 15)).trans ((pmU_n _ _ (by omega)).trans ((pmU_n _ _ (by omega)).trans hR.2.2.2.2.2.2.2.2.2.2.2.2.2.2.2.1)), (congrFun enk10 (m + 16)).trans ((pmU_n _ _ (by omega)).trans ((pmU_n _ _ (by omega)).trans hR.2.2.2.2.2.2.2.2.2.2.2.2.2.2.2.2))⟩
          have sk10 := hs.trans gsk10
          refine go_iret dRef_pass_154 rfl rfl ?_ (Nat.le_of_ble_eq_true rfl) (Nat.le_of_ble_eq_true rfl)
          exact retR_no (by rw [paF, if_neg (fun q => q ⟨Int32.not_lt.mp c1, c2⟩), if_pos (Int32.not_le.mp c3)]) hRk10 hr rfl sk10
    · refine go_iconst (v := 1) dRef_pass_13 (by decide) ?_
      refine go_goto (tgt := 26) dRef_pass_14 ?_
      refine go_putf dRef_pass_26 qf_Ref_59 pw_8_0 hR.1 rfl rfl ?_
      refine go_aload_n dRef_pass_29 rfl ?_
      refine go_getf dRef_pass_30 qf_Ref_59 (pmU_s _ _ _) rfl ?_
      refine go_if_le (tgt := 40) dRef_pass_33 (fun cc => absurd cc (by decide)) (fun _ => ?_)
      refine go_iconst (v := 0) dRef_pass_36 (by decide) ?_
      refine go_goto (tgt := 60) dRef_pass_37 ?_
      skip
      refine go_istore_n dRef_pass_60 ?_
      refine go_aload_n dRef_pass_61 rfl ?_
      refine go_aload_n dRef_pass_62 rfl ?_
      refine go_getf dRef_pass_63 qf_Ref_59 (pmU_s _ _ _) rfl ?_
      refine go_if_ne (tgt := 85) dRef_pass_66 (fun _ => ?_) (fun cc => absurd cc (by decide))
      refine go_aload_n dRef_pass_85 rfl ?_
      refine go_getf dRef_pass_86 qf_Ref_59 (pmU_s _ _ _) rfl ?_
      refine go_putf dRef_pass_89 qf_Ref_59 pw_8_0 (pmU_s _ _ _) rfl rfl ?_
      refine go_iconst (v := 0) dRef_pass_92 (by decide) ?_
      refine go_istore dRef_pass_93 ?_
      refine go_iload dRef_pass_95 rfl ?_
      refine go_iload_n dRef_pass_97 rfl ?_
      refine go_icmp_ge (tgt := 142) dRef_pass_98 (fun c3 => ?_) (fun c3 => ?_)
      · refine go_aload_n dRef_pass_142 rfl ?_
        refine go_getf dRef_pass_143 qf_Ref_59 (pmU_s _ _ _) rfl ?_
        refine go_if_le (tgt := 153) dRef_pass_146 (fun cc => absurd cc (by decide)) (fun _ => ?_)
        refine go_iconst (v := 0) dRef_pass_149 (by decide) ?_
        refine go_goto (tgt := 154) dRef_pass_150 ?_
        refine go_nm (fun hnk11 enk11 => ?_)
        have gsk11 : Sm h hnk11 m 17 := by rw [enk11]; exact (Sm.put' (Sm.put' (Sm.refl _ _ _) _ (by omega) (by omega)) _ (by omega) (by omega))
        have hRk11 : RfA hnk11 m (upd g 0 1) (A) := ⟨(congrFun enk11 m).trans (pmU_s _ _ _), (congrFun enk11 (m + 1)).trans ((pmU_n _ _ (by omega)).trans ((pmU_n _ _ (by omega)).trans hR.2.1)), (congrFun enk11 (m + 2)).trans ((pmU_n _ _ (by omega)).trans ((pmU_n _ _ (by omega)).trans hR.2.2.1)), (congrFun enk11 (m + 3)).trans ((pmU_n _ _ (by omega)).trans ((pmU_n _ _ (by omega)).trans hR.2.2.2.1)), (congrFun enk11 (m + 4)).trans ((pmU_n _ _ (by omega)).trans ((pmU_n _ _ (by omega)).trans hR.2.2.2.2.1)), (congrFun enk11 (m + 5)).trans ((pmU_n _ _ (by omega)).trans ((pmU_n _ _ (by omega)).trans hR.2.2.2.2.2.1)), (congrFun enk11 (m + 6)).trans ((pmU_n _ _ (by omega)).trans ((pmU_n _ _ (by omega)).trans hR.2.2.2.2.2.2.1)), (congrFun enk11 (m + 7)).trans ((pmU_n _ _ (by omega)).trans ((pmU_n _ _ (by omega)).trans hR.2.2.2.2.2.2.2.1)), (congrFun enk11 (m + 8)).trans ((pmU_n _ _ (by omega)).trans ((pmU_n _ _ (by omega)).trans hR.2.2.2.2.2.2.2.2.1)), (congrFun enk11 (m + 9)).trans ((pmU_n _ _ (by omega)).trans ((pmU_n _ _ (by omega)).trans hR.2.2.2.2.2.2.2.2.2.1)), (congrFun enk11 (m + 10)).trans ((pmU_n _ _ (by omega)).trans ((pmU_n _ _ (by omega)).trans hR.2.2.2.2.2.2.2.2.2.2.1)), (congrFun enk11 (m + 11)).trans ((pmU_n _ _ (by omega)).trans ((pmU_n _ _ (by omega)).trans hR.2.2.2.2.2.2.2.2.2.2.2.1)), (congrFun enk11 (m + 12)).trans ((pmU_n _ _ (by omega)).trans ((pmU_n _ _ (by omega)).trans hR.2.2.2.2.2.2.2.2.2.2.2.2.1)), (congrFun enk11 (m + 13)).trans ((pmU_n _ _ (by omega)).trans ((pmU_n _ _ (by omega)).trans hR.2.2.2.2.2.2.2.2.2.2.2.2.2.1)), (congrFun enk11 (m + 14)).trans ((pmU_n _ _ (by omega)).trans ((pmU_n _ _ (by omega)).trans hR.2.2.2.2.2.2.2.2.2.2.2.2.2.2.1)), (congrFun enk11 (m + 15)).trans ((pmU_n _ _ (by omega)).trans ((pmU_n _ _ (by omega)).trans hR.2.2.2.2.2.2.2.2.2.2.2.2.2.2.2.1)), (congrFun enk11 (m + 16)).trans ((pmU_n _ _ (by omega)).trans ((pmU_n _ _ (by omega)).trans hR.2.2.2.2.2.2.2.2.2.2.2.2.2.2.2.2))⟩
        have sk11 := hs.trans gsk11
        refine go_iret dRef_pass_154 rfl rfl ?_ (Nat.le_of_ble_eq_true rfl) (Nat.le_of_ble_eq_true rfl)
        exact retR_no (by rw [paF, if_pos (fun q => c2 q.2)]) hRk11 hr rfl sk11
      · refine go_aload_n dRef_pass_101 rfl ?_
        refine go_getf dRef_pass_102 qf_Ref_59 (pmU_s _ _ _) rfl ?_
        refine go_if_ne (tgt := 142) dRef_pass_105 (fun _ => ?_) (fun cc => absurd cc (by decide))
        refine go_aload_n dRef_pass_142 rfl ?_
        refine go_getf dRef_pass_143 qf_Ref_59 (pmU_s _ _ _) rfl ?_
        refine go_if_le (tgt := 153) dRef_pass_146 (fun cc => absurd cc (by decide)) (fun _ => ?_)
        refine go_iconst (v := 0) dRef_pass_149 (by decide) ?_
        refine go_goto (tgt := 154) dRef_pass_150 ?_
        refine go_nm (fun hnk12 enk12 => ?_)
        have gsk12 : Sm h hnk12 m 17 := by rw [enk12]; exact (Sm.put' (Sm.put' (Sm.refl _ _ _) _ (by omega) (by omega)) _ (by omega) (by omega))
        have hRk12 : RfA hnk12 m (upd g 0 1) (A) := ⟨(congrFun enk12 m).trans (pmU_s _ _ _), (congrFun enk12 (m + 1)).trans ((pmU_n _ _ (by omega)).trans ((pmU_n _ _ (by omega)).trans hR.2.1)), (congrFun enk12 (m + 2)).trans ((pmU_n _ _ (by omega)).trans ((pmU_n _ _ (by omega)).trans hR.2.2.1)), (congrFun enk12 (m + 3)).trans ((pmU_n _ _ (by omega)).trans ((pmU_n _ _ (by omega)).trans hR.2.2.2.1)), (congrFun enk12 (m + 4)).trans ((pmU_n _ _ (by omega)).trans ((pmU_n _ _ (by omega)).trans hR.2.2.2.2.1)), (congrFun enk12 (m + 5)).trans ((pmU_n _ _ (by omega)).trans ((pmU_n _ _ (by omega)).trans hR.2.2.2.2.2.1)), (congrFun enk12 (m + 6)).trans ((pmU_n _ _ (by omega)).trans ((pmU_n _ _ (by omega)).trans hR.2.2.2.2.2.2.1)), (congrFun enk12 (m + 7)).trans ((pmU_n _ _ (by omega)).trans ((pmU_n _ _ (by omega)).trans hR.2.2.2.2.2.2.2.1)), (congrFun enk12 (m + 8)).trans ((pmU_n _ _ (by omega)).trans ((pmU_n _ _ (by omega)).trans hR.2.2.2.2.2.2.2.2.1)), (congrFun enk12 (m + 9)).trans ((pmU_n _ _ (by omega)).trans ((pmU_n _ _ (by omega)).trans hR.2.2.2.2.2.2.2.2.2.1)), (congrFun enk12 (m + 10)).trans ((pmU_n _ _ (by omega)).trans ((pmU_n _ _ (by omega)).trans hR.2.2.2.2.2.2.2.2.2.2.1)), (congrFun enk12 (m + 11)).trans ((pmU_n _ _ (by omega)).trans ((pmU_n _ _ (by omega)).trans hR.2.2.2.2.2.2.2.2.2.2.2.1)), (congrFun enk12 (m + 12)).trans ((pmU_n _ _ (by omega)).trans ((pmU_n _ _ (by omega)).trans hR.2.2.2.2.2.2.2.2.2.2.2.2.1)), (congrFun enk12 (m + 13)).trans ((pmU_n _ _ (by omega)).trans ((pmU_n _ _ (by omega)).trans hR.2.2.2.2.2.2.2.2.2.2.2.2.2.1)), (congrFun enk12 (m + 14)).trans ((pmU_n _ _ (by omega)).trans ((pmU_n _ _ (by omega)).trans hR.2.2.2.2.2.2.2.2.2.2.2.2.2.2.1)), (congrFun enk12 (m + 15)).trans ((pmU_n _ _ (by omega)).trans ((pmU_n _ _ (by omega)).trans hR.2.2.2.2.2.2.2.2.2.2.2.2.2.2.2.1)), (congrFun enk12 (m + 16)).trans ((pmU_n _ _ (by omega)).trans ((pmU_n _ _ (by omega)).trans hR.2.2.2.2.2.2.2.2.2.2.2.2.2.2.2.2))⟩
        have sk12 := hs.trans gsk12
        refine go_iret dRef_pass_154 rfl rfl ?_ (Nat.le_of_ble_eq_true rfl) (Nat.le_of_ble_eq_true rfl)
        exact retR_no (by rw [paF, if_pos (fun q => c2 q.2)]) hRk12 hr rfl sk12
set_option maxHeartbeats 4000000 in
theorem r_at {E : pmEv} {h : pmH} {m : Nat} {g : Nat → Int32} {A : Nat → Nat → Int32} {α : aPF} {a1 a2 a3 : Int32} (hR : RfA h m g A) (hr : RR g A α) (hv : IvA α) : Call E mRef_at [.ref m, .int a1, .int a2, .int a3] h none 0 0 (RetR m h [1, 0, 2] (some (.int 0)) (atF α a1 a2 a3)) := by
  have hs : Sm h h m 17 := Sm.refl _ _ _
  have ho := hr.1
  have ht : g 1 = 0 ↔ ¬ α.1.1 = true := by rw [ho.1]; exact bI_0
  have hq := hr.2.2.2
  have ht2 : g 14 = 0 ↔ ¬ ¬ α.2.2.2.2.2 0 = 0 := by rw [hq.2.1]; exact bI_0
  refine call_of (L := [some (.ref m), some (.int a1), some (.int a2), some (.int a3)]) ok_mRef_at (Nat.le_of_ble_eq_true rfl) ?_
  refine go_aload_n dRef_at_0 rfl ?_
  refine go_aload_n dRef_at_1 rfl ?_
  refine go_getf dRef_at_2 qf_Ref_274 hR.1 rfl ?_
  refine go_if_ne (tgt := 12) dRef_at_5 (fun c1 => ?_) (fun c1 => ?_)
  · have t1 : ¬ α.2.2.2.2.2 0 = 0 := Decidable.not_not.mp fun q => c1 (ht2.mpr q)
    have hp := (hq.2.2 t1).1
    have hd := hp.1
    have hvp := (hv.2.2.2 t1).1
    have hok := hvp.1
    have hb := hok.b
    have hkk := hok.k
    have hwh := hok.w
    have hch := chN_le α.2.2.2.1.2.1.2.2.2
    have hc64 := hvp.2.1.1
    have hx6 := hvp.2.2.1.1
    refine go_iload_n dRef_at_12 rfl ?_
    refine go_if_lt (tgt := 51) dRef_at_13 (fun c2 => ?_) (fun c2 => ?_)
    · refine go_iconst (v := 2) dRef_at_51 (by decide) ?_
      refine go_goto (tgt := 56) dRef_at_52 ?_
      refine go_putf dRef_at_56 qf_Ref_59 pw_8_0 hR.1 rfl rfl ?_
      refine go_aload_n dRef_at_59 rfl ?_
      refine go_getf dRef_at_60 qf_Ref_59 (pmU_s _ _ _) rfl ?_
      refine go_if_le (tgt := 70) dRef_at_63 (fun cc => absurd cc (by decide)) (fun _ => ?_)
      refine go_nm (fun hnk1 enk1 => ?_)
      have gsk1 : Sm h hnk1 m 17 := by rw [enk1]; exact (Sm.put' (Sm.refl _ _ _) _ (by omega) (by omega))
      have hRk1 : RfA hnk1 m (upd g 0 2) (A) := ⟨(congrFun enk1 m).trans (pmU_s _ _ _), (congrFun enk1 (m + 1)).trans ((pmU_n _ _ (by omega)).trans hR.2.1), (congrFun enk1 (m + 2)).trans ((pmU_n _ _ (by omega)).trans hR.2.2.1), (congrFun enk1 (m + 3)).trans ((pmU_n _ _ (by omega)).trans hR.2.2.2.1), (congrFun enk1 (m + 4)).trans ((pmU_n _ _ (by omega)).trans hR.2.2.2.2.1), (congrFun enk1 (m + 5)).trans ((pmU_n _ _ (by omega)).trans hR.2.2.2.2.2.1), (congrFun enk1 (m + 6)).trans ((pmU_n _ _ (by omega)).trans hR.2.2.2.2.2.2.1), (congrFun enk1 (m + 7)).trans ((pmU_n _ _ (by omega)).trans hR.2.2.2.2.2.2.2.1), (congrFun enk1 (m + 8)).trans ((pmU_n _ _ (by omega)).trans hR.2.2.2.2.2.2.2.2.1), (congrFun enk1 (m + 9)).trans ((pmU_n _ _ (by omega)).trans hR.2.2.2.2.2.2.2.2.2.1), (congrFun enk1 (m + 10)).trans ((pmU_n _ _ (by omega)).trans hR.2.2.2.2.2.2.2.2.2.2.1), (congrFun enk1 (m + 11)).trans ((pmU_n _ _ (by omega)).trans hR.2.2.2.2.2.2.2.2.2.2.2.1), (congrFun enk1 (m + 12)).trans ((pmU_n _ _ (by omega)).trans hR.2.2.2.2.2.2.2.2.2.2.2.2.1), (congrFun enk1 (m + 13)).trans ((pmU_n _ _ (by omega)).trans hR.2.2.2.2.2.2.2.2.2.2.2.2.2.1), (congrFun enk1 (m + 14)).trans ((pmU_n _ _ (by omega)).trans hR.2.2.2.2.2.2.2.2.2.2.2.2.2.2.1), (congrFun enk1 (m + 15)).trans ((pmU_n _ _ (by omega)).trans hR.2.2.2.2.2.2.2.2.2.2.2.2.2.2.2.1), (congrFun enk1 (m + 16)).trans ((pmU_n _ _ (by omega)).trans hR.2.2.2.2.2.2.2.2.2.2.2.2.2.2.2.2)⟩
      have sk1 := hs.trans gsk1
      refine go_iconst (v := 0) dRef_at_66 (by decide) ?_
      refine go_goto (tgt := 85) dRef_at_67 ?_
      skip
      refine go_iret dRef_at_85 rfl rfl ?_ (Nat.le_of_ble_eq_true rfl) (Nat.le_of_ble_eq_true rfl)
      exact retR_no (by rw [atF, if_neg t1, if_pos (fun q => absurd q.1.1 (Int32.not_le.mpr c2))]) hRk1 hr rfl sk1
    · refine go_iload_n dRef_at_16 rfl ?_
      refine go_aload_n dRef_at_17 rfl ?_
      refine go_getf dRef_at_18 qf_Ref_233 hR.1 rfl ?_
      refine go_top (y := nI α.2.2.2.1.2.1.1) (by exact hd.1) ?_
      refine go_icmp_ge (tgt := 51) dRef_at_21 (fun c3 => ?_) (fun c3 => ?_)
      · refine go_iconst (v := 2) dRef_at_51 (by decide) ?_
        refine go_goto (tgt := 56) dRef_at_52 ?_
        refine go_putf dRef_at_56 qf_Ref_59 pw_8_0 hR.1 rfl rfl ?_
        refine go_aload_n dRef_at_59 rfl ?_
        refine go_getf dRef_at_60 qf_Ref_59 (pmU_s _ _ _) rfl ?_
        refine go_if_le (tgt := 70) dRef_at_63 (fun cc => absurd cc (by decide)) (fun _ => ?_)
        refine go_nm (fun hnk2 enk2 => ?_)
        have gsk2 : Sm h hnk2 m 17 := by rw [enk2]; exact (Sm.put' (Sm.refl _ _ _) _ (by omega) (by omega))
        have hRk2 : RfA hnk2 m (upd g 0 2) (A) := ⟨(congrFun enk2 m).trans (pmU_s _ _ _), (congrFun enk2 (m + 1)).trans ((pmU_n _ _ (by omega)).trans hR.2.1), (congrFun enk2 (m + 2)).trans ((pmU_n _ _ (by omega)).trans hR.2.2.1), (congrFun enk2 (m + 3)).trans ((pmU_n _ _ (by omega)).trans hR.2.2.2.1), (congrFun enk2 (m + 4)).trans ((pmU_n _ _ (by omega)).trans hR.2.2.2.2.1), (congrFun enk2 (m + 5)).trans ((pmU_n _ _ (by omega)).trans hR.2.2.2.2.2.1), (congrFun enk2 (m + 6)).trans ((pmU_n _ _ (by omega)).trans hR.2.2.2.2.2.2.1), (congrFun enk2 (m + 7)).trans ((pmU_n _ _ (by omega)).trans hR.2.2.2.2.2.2.2.1), (congrFun enk2 (m + 8)).trans ((pmU_n _ _ (by omega)).trans hR.2.2.2.2.2.2.2.2.1), (congrFun enk2 (m + 9)).trans ((pmU_n _ _ (by omega)).trans hR.2.2.2.2.2.2.2.2.2.1), (congrFun enk2 (m + 10)).trans ((pmU_n _ _ (by omega)).trans hR.2.2.2.2.2.2.2.2.2.2.1), (congrFun enk2 (m + 11)).trans ((pmU_n _ _ (by omega)).trans hR.2.2.2.2.2.2.2.2.2.2.2.1), (congrFun enk2 (m + 12)).trans ((pmU_n _ _ (by omega)).trans hR.2.2.2.2.2.2.2.2.2.2.2.2.1), (congrFun enk2 (m + 13)).trans ((pmU_n _ _ (by omega)).trans hR.2.2.2.2.2.2.2.2.2.2.2.2.2.1), (congrFun enk2 (m + 14)).trans ((pmU_n _ _ (by omega)).trans hR.2.2.2.2.2.2.2.2.2.2.2.2.2.2.1), (congrFun enk2 (m + 15)).trans ((pmU_n _ _ (by omega)).trans hR.2.2.2.2.2.2.2.2.2.2.2.2.2.2.2.1), (congrFun enk2 (m + 16)).trans ((pmU_n _ _ (by omega)).trans hR.2.2.2.2.2.2.2.2.2.2.2.2.2.2.2.2)⟩
        have sk2 := hs.trans gsk2
        refine go_iconst (v := 0) dRef_at_66 (by decide) ?_
        refine go_goto (tgt := 85) dRef_at_67 ?_
        skip
        refine go_iret dRef_at_85 rfl rfl ?_ (Nat.le_of_ble_eq_true rfl) (Nat.le_of_ble_eq_true rfl)
        exact retR_no (by rw [atF, if_neg t1, if_pos (fun q => absurd q.1.2 (Int32.not_lt.mpr c3))]) hRk2 hr rfl sk2
      · refine go_iload_n dRef_at_24 rfl ?_
        refine go_if_lt (tgt := 51) dRef_at_25 (fun c4 => ?_) (fun c4 => ?_)
        · refine go_iconst (v := 2) dRef_at_51 (by decide) ?_
          refine go_goto (tgt := 56) dRef_at_52 ?_
          refine go_putf dRef_at_56 qf_Ref_59 pw_8_0 hR.1 rfl rfl ?_
          refine go_aload_n dRef_at_59 rfl ?_
          refine go_getf dRef_at_60 qf_Ref_59 (pmU_s _ _ _) rfl ?_
          refine go_if_le (tgt := 70) dRef_at_63 (fun cc => absurd cc (by decide)) (fun _ => ?_)
          refine go_nm (fun hnk3 enk3 => ?_)
          have gsk3 : Sm h hnk3 m 17 := by rw [enk3]; exact (Sm.put' (Sm.refl _ _ _) _ (by omega) (by omega))
          have hRk3 : RfA hnk3 m (upd g 0 2) (A) := ⟨(congrFun enk3 m).trans (pmU_s _ _ _), (congrFun enk3 (m + 1)).trans ((pmU_n _ _ (by omega)).trans hR.2.1), (congrFun enk3 (m + 2)).trans ((pmU_n _ _ (by omega)).trans hR.2.2.1), (congrFun enk3 (m + 3)).trans ((pmU_n _ _ (by omega)).trans hR.2.2.2.1), (congrFun enk3 (m + 4)).trans ((pmU_n _ _ (by omega)).trans hR.2.2.2.2.1), (congrFun enk3 (m + 5)).trans ((pmU_n _ _ (by omega)).trans hR.2.2.2.2.2.1), (congrFun enk3 (m + 6)).trans ((pmU_n _ _ (by omega)).trans hR.2.2.2.2.2.2.1), (congrFun enk3 (m + 7)).trans ((pmU_n _ _ (by omega)).trans hR.2.2.2.2.2.2.2.1), (congrFun enk3 (m + 8)).trans ((pmU_n _ _ (by omega)).trans hR.2.2.2.2.2.2.2.2.1), (congrFun enk3 (m + 9)).trans ((pmU_n _ _ (by omega)).trans hR.2.2.2.2.2.2.2.2.2.1), (congrFun enk3 (m + 10)).trans ((pmU_n _ _ (by omega)).trans hR.2.2.2.2.2.2.2.2.2.2.1), (congrFun enk3 (m + 11)).trans ((pmU_n _ _ (by omega)).trans hR.2.2.2.2.2.2.2.2.2.2.2.1), (congrFun enk3 (m + 12)).trans ((pmU_n _ _ (by omega)).trans hR.2.2.2.2.2.2.2.2.2.2.2.2.1), (congrFun enk3 (m + 13)).trans ((pmU_n _ _ (by omega)).trans hR.2.2.2.2.2.2.2.2.2.2.2.2.2.1), (congrFun enk3 (m + 14)).trans ((pmU_n _ _ (by omega)).trans hR.2.2.2.2.2.2.2.2.2.2.2.2.2.2.1), (congrFun enk3 (m + 15)).trans ((pmU_n _ _ (by omega)).trans hR.2.2.2.2.2.2.2.2.2.2.2.2.2.2.2.1), (congrFun enk3 (m + 16)).trans ((pmU_n _ _ (by omega)).trans hR.2.2.2.2.2.2.2.2.2.2.2.2.2.2.2.2)⟩
          have sk3 := hs.trans gsk3
          refine go_iconst (v := 0) dRef_at_66 (by decide) ?_
          refine go_goto (tgt := 85) dRef_at_67 ?_
          skip
          refine go_iret dRef_at_85 rfl rfl ?_ (Nat.le_of_ble_eq_true rfl) (Nat.le_of_ble_eq_true rfl)
          exact retR_no (by rw [atF, if_neg t1, if_pos (fun q => absurd q.2.1.1 (Int32.not_le.mpr c4))]) hRk3 hr rfl sk3
        · refine go_iload_n dRef_at_28 rfl ?_
          refine go_aload_n dRef_at_29 rfl ?_
          refine go_getf dRef_at_30 qf_Ref_236 hR.1 rfl ?_
          refine go_top (y := nI α.2.2.2.1.2.1.2.1) (by exact hd.2.1) ?_
          refine go_icmp_ge (tgt := 51) dRef_at_33 (fun c5 => ?_) (fun c5 => ?_)
          · refine go_iconst (v := 2) dRef_at_51 (by decide) ?_
            refine go_goto (tgt := 56) dRef_at_52 ?_
            refine go_putf dRef_at_56 qf_Ref_59 pw_8_0 hR.1 rfl rfl ?_
            refine go_aload_n dRef_at_59 rfl ?_
            refine go_getf dRef_at_60 qf_Ref_59 (pmU_s _ _ _) rfl ?_
            refine go_if_le (tgt := 70) dRef_at_63 (fun cc => absurd cc (by decide)) (fun _ => ?_)
            refine go_nm (fun hnk4 enk4 => ?_)
            have gsk4 : Sm h hnk4 m 17 := by rw [enk4]; exact (Sm.put' (Sm.refl _ _ _) _ (by omega) (by omega))
            have hRk4 : RfA hnk4 m (upd g 0 2) (A) := ⟨(congrFun enk4 m).trans (pmU_s _ _ _), (congrFun enk4 (m + 1)).trans ((pmU_n _ _ (by omega)).trans hR.2.1), (congrFun enk4 (m + 2)).trans ((pmU_n _ _ (by omega)).trans hR.2.2.1), (congrFun enk4 (m + 3)).trans ((pmU_n _ _ (by omega)).trans hR.2.2.2.1), (congrFun enk4 (m + 4)).trans ((pmU_n _ _ (by omega)).trans hR.2.2.2.2.1), (congrFun enk4 (m + 5)).trans ((pmU_n _ _ (by omega)).trans hR.2.2.2.2.2.1), (congrFun enk4 (m + 6)).trans ((pmU_n _ _ (by omega)).trans hR.2.2.2.2.2.2.1), (congrFun enk4 (m + 7)).trans ((pmU_n _ _ (by omega)).trans hR.2.2.2.2.2.2.2.1), (congrFun enk4 (m + 8)).trans ((pmU_n _ _ (by omega)).trans hR.2.2.2.2.2.2.2.2.1), (congrFun enk4 (m + 9)).trans ((pmU_n _ _ (by omega)).trans hR.2.2.2.2.2.2.2.2.2.1), (congrFun enk4 (m + 10)).trans ((pmU_n _ _ (by omega)).trans hR.2.2.2.2.2.2.2.2.2.2.1), (congrFun enk4 (m + 11)).trans ((pmU_n _ _ (by omega)).trans hR.2.2.2.2.2.2.2.2.2.2.2.1), (congrFun enk4 (m + 12)).trans ((pmU_n _ _ (by omega)).trans hR.2.2.2.2.2.2.2.2.2.2.2.2.1), (congrFun enk4 (m + 13)).trans ((pmU_n _ _ (by omega)).trans hR.2.2.2.2.2.2.2.2.2.2.2.2.2.1), (congrFun enk4 (m + 14)).trans ((pmU_n _ _ (by omega)).trans hR.2.2.2.2.2.2.2.2.2.2.2.2.2.2.1), (congrFun enk4 (m + 15)).trans ((pmU_n _ _ (by omega)).trans hR.2.2.2.2.2.2.2.2.2.2.2.2.2.2.2.1), (congrFun enk4 (m + 16)).trans ((pmU_n _ _ (by omega)).trans hR.2.2.2.2.2.2.2.2.2.2.2.2.2.2.2.2)⟩
            have sk4 := hs.trans gsk4
            refine go_iconst (v := 0) dRef_at_66 (by decide) ?_
            refine go_goto (tgt := 85) dRef_at_67 ?_
            skip
            refine go_iret dRef_at_85 rfl rfl ?_ (Nat.le_of_ble_eq_true rfl) (Nat.le_of_ble_eq_true rfl)
            exact retR_no (by rw [atF, if_neg t1, if_pos (fun q => absurd q.2.1.2 (Int32.not_lt.mpr c5))]) hRk4 hr rfl sk4
          · refine go_iload_n dRef_at_36 rfl ?_
            refine go_if_lt (tgt := 51) dRef_at_37 (fun c6 => ?_) (fun c6 => ?_)
            · refine go_iconst (v := 2) dRef_at_51 (by decide) ?_
              refine go_goto (tgt := 56) dRef_at_52 ?_
              refine go_putf dRef_at_56 qf_Ref_59 pw_8_0 hR.1 rfl rfl ?_
              refine go_aload_n dRef_at_59 rfl ?_
              refine go_getf dRef_at_60 qf_Ref_59 (pmU_s _ _ _) rfl ?_
              refine go_if_le (tgt := 70) dRef_at_63 (fun cc => absurd cc (by decide)) (fun _ => ?_)
              refine go_nm (fun hnk5 enk5 => ?_)
              have gsk5 : Sm h hnk5 m 17 := by rw [enk5]; exact (Sm.put' (Sm.refl _ _ _) _ (by omega) (by omega))
              have hRk5 : RfA hnk5 m (upd g 0 2) (A) := ⟨(congrFun enk5 m).trans (pmU_s _ _ _), (congrFun enk5 (m + 1)).trans ((pmU_n _ _ (by omega)).trans hR.2.1), (congrFun enk5 (m + 2)).trans ((pmU_n _ _ (by omega)).trans hR.2.2.1), (congrFun enk5 (m + 3)).trans ((pmU_n _ _ (by omega)).trans hR.2.2.2.1), (congrFun enk5 (m + 4)).trans ((pmU_n _ _ (by omega)).trans hR.2.2.2.2.1), (congrFun enk5 (m + 5)).trans ((pmU_n _ _ (by omega)).trans hR.2.2.2.2.2.1), (congrFun enk5 (m + 6)).trans ((pmU_n _ _ (by omega)).trans hR.2.2.2.2.2.2.1), (congrFun enk5 (m + 7)).trans ((pmU_n _ _ (by omega)).trans hR.2.2.2.2.2.2.2.1), (congrFun enk5 (m + 8)).trans ((pmU_n _ _ (by omega)).trans hR.2.2.2.2.2.2.2.2.1), (congrFun enk5 (m + 9)).trans ((pmU_n _ _ (by omega)).trans hR.2.2.2.2.2.2.2.2.2.1), (congrFun enk5 (m + 10)).trans ((pmU_n _ _ (by omega)).trans hR.2.2.2.2.2.2.2.2.2.2.1), (congrFun enk5 (m + 11)).trans ((pmU_n _ _ (by omega)).trans hR.2.2.2.2.2.2.2.2.2.2.2.1), (congrFun enk5 (m + 12)).trans ((pmU_n _ _ (by omega)).trans hR.2.2.2.2.2.2.2.2.2.2.2.2.1), (congrFun enk5 (m + 13)).trans ((pmU_n _ _ (by omega)).trans hR.2.2.2.2.2.2.2.2.2.2.2.2.2.1), (congrFun enk5 (m + 14)).trans ((pmU_n _ _ (by omega)).trans hR.2.2.2.2.2.2.2.2.2.2.2.2.2.2.1), (congrFun enk5 (m + 15)).trans ((pmU_n _ _ (by omega)).trans hR.2.2.2.2.2.2.2.2.2.2.2.2.2.2.2.1), (congrFun enk5 (m + 16)).trans ((pmU_n _ _ (by omega)).trans hR.2.2.2.2.2.2.2.2.2.2.2.2.2.2.2.2)⟩
              have sk5 := hs.trans gsk5
              refine go_iconst (v := 0) dRef_at_66 (by decide) ?_
              refine go_goto (tgt := 85) dRef_at_67 ?_
              skip
              refine go_iret dRef_at_85 rfl rfl ?_ (Nat.le_of_ble_eq_true rfl) (Nat.le_of_ble_eq_true rfl)
              exact retR_no (by rw [atF, if_neg t1, if_pos (fun q => absurd q.2.2.1 (Int32.not_le.mpr c6))]) hRk5 hr rfl sk5
            · refine go_iload_n dRef_at_40 rfl ?_
              refine go_aload_n dRef_at_41 rfl ?_
              refine go_getf dRef_at_42 qf_Ref_224 hR.1 rfl ?_
              refine go_top (y := nI α.2.2.2.1.2.1.2.2.2) (by exact hd.2.2.2) ?_
              refine go_statP dRef_at_45 ok_mRef_channelsOf st_mRef_channelsOf qm_Ref_100 r_channelsOf ?_ (hnp := np_mRef_channelsOf)
              rw [chOf_n hok.k]
              refine go_icmp_lt (tgt := 55) dRef_at_48 (fun c7 => ?_) (fun c7 => ?_)
              · have h2 : pHas α.2.2.2.1.2.1 a1 a2 a3 := ⟨⟨Int32.not_lt.mp c2, Int32.not_le.mp c3⟩, ⟨Int32.not_lt.mp c4, Int32.not_le.mp c5⟩, Int32.not_lt.mp c6, c7⟩
                refine go_iconst (v := 0) dRef_at_55 (by decide) ?_
                refine go_putf dRef_at_56 qf_Ref_59 pw_8_0 hR.1 rfl rfl ?_
                refine go_aload_n dRef_at_59 rfl ?_
                refine go_getf dRef_at_60 qf_Ref_59 (pmU_s _ _ _) rfl ?_
                refine go_if_le (tgt := 70) dRef_at_63 (fun _ => ?_) (fun cc => absurd (by decide) cc)
                obtain ⟨x5, y5, u5, rfl, rfl, rfl, hx5, hy5, hu5⟩ := pHas_ex h2
                refine go_aload_n dRef_at_70 rfl ?_
                refine go_getf dRef_at_71 qf_Ref_28 (pmU_s _ _ _) rfl ?_
                refine go_iconst (v := 4) dRef_at_74 (by decide) ?_
                refine go_bipush (v := 12) dRef_at_75 (by decide) ?_
                refine go_iload_n dRef_at_77 rfl ?_
                refine go_imul dRef_at_78 ?_
                refine go_iload_n dRef_at_79 rfl ?_
                refine go_iadd dRef_at_80 ?_
                refine go_imul dRef_at_81 ?_
                refine go_iload_n dRef_at_82 rfl ?_
                refine go_iadd dRef_at_83 ?_
                refine go_top (y := nI ((y5 * 12 + x5) * 4 + u5)) (by rw [show (4 : Int32) = nI 4 from rfl, show (12 : Int32) = nI 12 from rfl, pk_mul, nI_add, pk_mul, nI_add]; congr 1; omega) ?_
                refine go_iald dRef_at_84 ((pmU_n _ _ (by omega)).trans hR.2.2.2.2.2.2.2.1) (by exact vp_in_nI (by omega) (by omega)) (congrArg _ (nI_clamp (by omega))) ?_
                refine go_nm (fun hnk6 enk6 => ?_)
                have gsk6 : Sm h hnk6 m 17 := by rw [enk6]; exact (Sm.put' (Sm.refl _ _ _) _ (by omega) (by omega))
                have hRk6 : RfA hnk6 m (upd g 0 0) (A) := ⟨(congrFun enk6 m).trans (pmU_s _ _ _), (congrFun enk6 (m + 1)).trans ((pmU_n _ _ (by omega)).trans hR.2.1), (congrFun enk6 (m + 2)).trans ((pmU_n _ _ (by omega)).trans hR.2.2.1), (congrFun enk6 (m + 3)).trans ((pmU_n _ _ (by omega)).trans hR.2.2.2.1), (congrFun enk6 (m + 4)).trans ((pmU_n _ _ (by omega)).trans hR.2.2.2.2.1), (congrFun enk6 (m + 5)).trans ((pmU_n _ _ (by omega)).trans hR.2.2.2.2.2.1), (congrFun enk6 (m + 6)).trans ((pmU_n _ _ (by omega)).trans hR.2.2.2.2.2.2.1), (congrFun enk6 (m + 7)).trans ((pmU_n _ _ (by omega)).trans hR.2.2.2.2.2.2.2.1), (congrFun enk6 (m + 8)).trans ((pmU_n _ _ (by omega)).trans hR.2.2.2.2.2.2.2.2.1), (congrFun enk6 (m + 9)).trans ((pmU_n _ _ (by omega)).trans hR.2.2.2.2.2.2.2.2.2.1), (congrFun enk6 (m + 10)).trans ((pmU_n _ _ (by omega)).trans hR.2.2.2.2.2.2.2.2.2.2.1), (congrFun enk6 (m + 11)).trans ((pmU_n _ _ (by omega)).trans hR.2.2.2.2.2.2.2.2.2.2.2.1), (congrFun enk6 (m + 12)).trans ((pmU_n _ _ (by omega)).trans hR.2.2.2.2.2.2.2.2.2.2.2.2.1), (congrFun enk6 (m + 13)).trans ((pmU_n _ _ (by omega)).trans hR.2.2.2.2.2.2.2.2.2.2.2.2.2.1), (congrFun enk6 (m + 14)).trans ((pmU_n _ _ (by omega)).trans hR.2.2.2.2.2.2.2.2.2.2.2.2.2.2.1), (congrFun enk6 (m + 15)).trans ((pmU_n _ _ (by omega)).trans hR.2.2.2.2.2.2.2.2.2.2.2.2.2.2.2.1), (congrFun enk6 (m + 16)).trans ((pmU_n _ _ (by omega)).trans hR.2.2.2.2.2.2.2.2.2.2.2.2.2.2.2.2)⟩
                have sk6 := hs.trans gsk6
                refine go_iret dRef_at_85 rfl rfl ?_ (Nat.le_of_ble_eq_true rfl) (Nat.le_of_ble_eq_true rfl)
                exact retR_ok (β := α) (by rw [atF, if_neg t1, if_neg (fun q => q h2), poN, nI_clamp (n := x5) (by omega), nI_clamp (n := y5) (by omega), nI_clamp (n := u5) (by omega), hp.2.1 x5 hx5 y5 hy5 u5 hu5]) hRk6 hr rfl sk6
              · refine go_iconst (v := 2) dRef_at_51 (by decide) ?_
                refine go_goto (tgt := 56) dRef_at_52 ?_
                refine go_putf dRef_at_56 qf_Ref_59 pw_8_0 hR.1 rfl rfl ?_
                refine go_aload_n dRef_at_59 rfl ?_
                refine go_getf dRef_at_60 qf_Ref_59 (pmU_s _ _ _) rfl ?_
                refine go_if_le (tgt := 70) dRef_at_63 (fun cc => absurd cc (by decide)) (fun _ => ?_)
                refine go_nm (fun hnk7 enk7 => ?_)
                have gsk7 : Sm h hnk7 m 17 := by rw [enk7]; exact (Sm.put' (Sm.refl _ _ _) _ (by omega) (by omega))
                have hRk7 : RfA hnk7 m (upd g 0 2) (A) := ⟨(congrFun enk7 m).trans (pmU_s _ _ _), (congrFun enk7 (m + 1)).trans ((pmU_n _ _ (by omega)).trans hR.2.1), (congrFun enk7 (m + 2)).trans ((pmU_n _ _ (by omega)).trans hR.2.2.1), (congrFun enk7 (m + 3)).trans ((pmU_n _ _ (by omega)).trans hR.2.2.2.1), (congrFun enk7 (m + 4)).trans ((pmU_n _ _ (by omega)).trans hR.2.2.2.2.1), (congrFun enk7 (m + 5)).trans ((pmU_n _ _ (by omega)).trans hR.2.2.2.2.2.1), (congrFun enk7 (m + 6)).trans ((pmU_n _ _ (by omega)).trans hR.2.2.2.2.2.2.1), (congrFun enk7 (m + 7)).trans ((pmU_n _ _ (by omega)).trans hR.2.2.2.2.2.2.2.1), (congrFun enk7 (m + 8)).trans ((pmU_n _ _ (by omega)).trans hR.2.2.2.2.2.2.2.2.1), (congrFun enk7 (m + 9)).trans ((pmU_n _ _ (by omega)).trans hR.2.2.2.2.2.2.2.2.2.1), (congrFun enk7 (m + 10)).trans ((pmU_n _ _ (by omega)).trans hR.2.2.2.2.2.2.2.2.2.2.1), (congrFun enk7 (m + 11)).trans ((pmU_n _ _ (by omega)).trans hR.2.2.2.2.2.2.2.2.2.2.2.1), (congrFun enk7 (m + 12)).trans ((pmU_n _ _ (by omega)).trans hR.2.2.2.2.2.2.2.2.2.2.2.2.1), (congrFun enk7 (m + 13)).trans ((pmU_n _ _ (by omega)).trans hR.2.2.2.2.2.2.2.2.2.2.2.2.2.1), (congrFun enk7 (m + 14)).trans ((pmU_n _ _ (by omega)).trans hR.2.2.2.2.2.2.2.2.2.2.2.2.2.2.1), (congrFun enk7 (m + 15)).trans ((pmU_n _ _ (by omega)).trans hR.2.2.2.2.2.2.2.2.2.2.2.2.2.2.2.1), (congrFun enk7 (m + 16)).trans ((pmU_n _ _ (by omega)).trans hR.2.2.2.2.2.2.2.2.2.2.2.2.2.2.2.2)⟩
                have sk7 := hs.trans gsk7
                refine go_iconst (v := 0) dRef_at_66 (by decide) ?_
                refine go_goto (tgt := 85) dRef_at_67 ?_
                skip
                refine go_iret dRef_at_85 rfl rfl ?_ (Nat.le_of_ble_eq_true rfl) (Nat.le_of_ble_eq_true rfl)
                exact retR_no (by rw [atF, if_neg t1, if_pos (fun q => c7 q.2.2.2)]) hRk7 hr rfl sk7
  · refine go_iconst (v := 1) dRef_at_8 (by decide) ?_
    refine go_goto (tgt := 56) dRef_at_9 ?_
    refine go_putf dRef_at_56 qf_Ref_59 pw_8_0 hR.1 rfl rfl ?_
    refine go_aload_n dRef_at_59 rfl ?_
    refine go_getf dRef_at_60 qf_Ref_59 (pmU_s _ _ _) rfl ?_
    refine go_if_le (tgt := 70) dRef_at_63 (fun cc => absurd cc (by decide)) (fun _ => ?_)
    refine go_nm (fun hnk8 enk8 => ?_)
    have gsk8 : Sm h hnk8 m 17 := by rw [enk8]; exact (Sm.put' (Sm.refl _ _ _) _ (by omega) (by omega))
    have hRk8 : RfA hnk8 m (upd g 0 1) (A) := ⟨(congrFun enk8 m).trans (pmU_s _ _ _), (congrFun enk8 (m + 1)).trans ((pmU_n _ _ (by omega)).trans hR.2.1), (congrFun enk8 (m + 2)).trans ((pmU_n _ _ (by omega)).trans hR.2.2.1), (congrFun enk8 (m + 3)).trans ((pmU_n _ _ (by omega)).trans hR.2.2.2.1), (congrFun enk8 (m + 4)).trans ((pmU_n _ _ (by omega)).trans hR.2.2.2.2.1), (congrFun enk8 (m + 5)).trans ((pmU_n _ _ (by omega)).trans hR.2.2.2.2.2.1), (congrFun enk8 (m + 6)).trans ((pmU_n _ _ (by omega)).trans hR.2.2.2.2.2.2.1), (congrFun enk8 (m + 7)).trans ((pmU_n _ _ (by omega)).trans hR.2.2.2.2.2.2.2.1), (congrFun enk8 (m + 8)).trans ((pmU_n _ _ (by omega)).trans hR.2.2.2.2.2.2.2.2.1), (congrFun enk8 (m + 9)).trans ((pmU_n _ _ (by omega)).trans hR.2.2.2.2.2.2.2.2.2.1), (congrFun enk8 (m + 10)).trans ((pmU_n _ _ (by omega)).trans hR.2.2.2.2.2.2.2.2.2.2.1), (congrFun enk8 (m + 11)).trans ((pmU_n _ _ (by omega)).trans hR.2.2.2.2.2.2.2.2.2.2.2.1), (congrFun enk8 (m + 12)).trans ((pmU_n _ _ (by omega)).trans hR.2.2.2.2.2.2.2.2.2.2.2.2.1), (congrFun enk8 (m + 13)).trans ((pmU_n _ _ (by omega)).trans hR.2.2.2.2.2.2.2.2.2.2.2.2.2.1), (congrFun enk8 (m + 14)).trans ((pmU_n _ _ (by omega)).trans hR.2.2.2.2.2.2.2.2.2.2.2.2.2.2.1), (congrFun enk8 (m + 15)).trans ((pmU_n _ _ (by omega)).trans hR.2.2.2.2.2.2.2.2.2.2.2.2.2.2.2.1), (congrFun enk8 (m + 16)).trans ((pmU_n _ _ (by omega)).trans hR.2.2.2.2.2.2.2.2.2.2.2.2.2.2.2.2)⟩
    have sk8 := hs.trans gsk8
    refine go_iconst (v := 0) dRef_at_66 (by decide) ?_
    refine go_goto (tgt := 85) dRef_at_67 ?_
    skip
    refine go_iret dRef_at_85 rfl rfl ?_ (Nat.le_of_ble_eq_true rfl) (Nat.le_of_ble_eq_true rfl)
    exact retR_no (by rw [atF, if_pos (Decidable.not_not.mp (ht2.mp c1))]) hRk8 hr rfl sk8
set_option maxHeartbeats 4000000 in
theorem r_found {E : pmEv} {h : pmH} {m : Nat} {g : Nat → Int32} {A : Nat → Nat → Int32} {α : aPF} {a1 : Int32} (hR : RfA h m g A) (hr : RR g A α) (hv : IvA α) : Call E mRef_found [.ref m, .int a1] h none 0 0 (RetR m h [1] (some (.int 0)) (foF α a1)) := by
  have hs : Sm h h m 17 := Sm.refl _ _ _
  have ho := hr.1
  have ht : g 1 = 0 ↔ ¬ α.1.1 = true := by rw [ho.1]; exact bI_0
  have hq := hr.2.2.2
  have ht2 : g 14 = 0 ↔ ¬ ¬ α.2.2.2.2.2 0 = 0 := by rw [hq.2.1]; exact bI_0
  refine call_of (L := [some (.ref m), some (.int a1)]) ok_mRef_found (Nat.le_of_ble_eq_true rfl) ?_
  refine go_aload_n dRef_found_0 rfl ?_
  refine go_aload_n dRef_found_1 rfl ?_
  refine go_getf dRef_found_2 qf_Ref_274 hR.1 rfl ?_
  refine go_if_eq (tgt := 12) dRef_found_5 (fun c1 => ?_) (fun c1 => ?_)
  · refine go_iconst (v := 1) dRef_found_12 (by decide) ?_
    refine go_putf dRef_found_13 qf_Ref_59 pw_8_0 hR.1 rfl rfl ?_
    refine go_aload_n dRef_found_16 rfl ?_
    refine go_getf dRef_found_17 qf_Ref_59 (pmU_s _ _ _) rfl ?_
    refine go_if_le (tgt := 25) dRef_found_20 (fun cc => absurd cc (by decide)) (fun _ => ?_)
    refine go_nm (fun hnk1 enk1 => ?_)
    have gsk1 : Sm h hnk1 m 17 := by rw [enk1]; exact (Sm.put' (Sm.refl _ _ _) _ (by omega) (by omega))
    have hRk1 : RfA hnk1 m (upd g 0 1) (A) := ⟨(congrFun enk1 m).trans (pmU_s _ _ _), (congrFun enk1 (m + 1)).trans ((pmU_n _ _ (by omega)).trans hR.2.1), (congrFun enk1 (m + 2)).trans ((pmU_n _ _ (by omega)).trans hR.2.2.1), (congrFun enk1 (m + 3)).trans ((pmU_n _ _ (by omega)).trans hR.2.2.2.1), (congrFun enk1 (m + 4)).trans ((pmU_n _ _ (by omega)).trans hR.2.2.2.2.1), (congrFun enk1 (m + 5)).trans ((pmU_n _ _ (by omega)).trans hR.2.2.2.2.2.1), (congrFun enk1 (m + 6)).trans ((pmU_n _ _ (by omega)).trans hR.2.2.2.2.2.2.1), (congrFun enk1 (m + 7)).trans ((pmU_n _ _ (by omega)).trans hR.2.2.2.2.2.2.2.1), (congrFun enk1 (m + 8)).trans ((pmU_n _ _ (by omega)).trans hR.2.2.2.2.2.2.2.2.1), (congrFun enk1 (m + 9)).trans ((pmU_n _ _ (by omega)).trans hR.2.2.2.2.2.2.2.2.2.1), (congrFun enk1 (m + 10)).trans ((pmU_n _ _ (by omega)).trans hR.2.2.2.2.2.2.2.2.2.2.1), (congrFun enk1 (m + 11)).trans ((pmU_n _ _ (by omega)).trans hR.2.2.2.2.2.2.2.2.2.2.2.1), (congrFun enk1 (m + 12)).trans ((pmU_n _ _ (by omega)).trans hR.2.2.2.2.2.2.2.2.2.2.2.2.1), (congrFun enk1 (m + 13)).trans ((pmU_n _ _ (by omega)).trans hR.2.2.2.2.2.2.2.2.2.2.2.2.2.1), (congrFun enk1 (m + 14)).trans ((pmU_n _ _ (by omega)).trans hR.2.2.2.2.2.2.2.2.2.2.2.2.2.2.1), (congrFun enk1 (m + 15)).trans ((pmU_n _ _ (by omega)).trans hR.2.2.2.2.2.2.2.2.2.2.2.2.2.2.2.1), (congrFun enk1 (m + 16)).trans ((pmU_n _ _ (by omega)).trans hR.2.2.2.2.2.2.2.2.2.2.2.2.2.2.2.2)⟩
    have sk1 := hs.trans gsk1
    refine go_iconst (v := 0) dRef_found_23 (by decide) ?_
    refine go_iret dRef_found_24 rfl rfl ?_ (Nat.le_of_ble_eq_true rfl) (Nat.le_of_ble_eq_true rfl)
    exact retR_no (by rw [foF, if_pos (Decidable.not_not.mp (ht2.mp c1))]) hRk1 hr rfl sk1
  · have t1 : ¬ α.2.2.2.2.2 0 = 0 := Decidable.not_not.mp fun q => c1 (ht2.mpr q)
    have hp := (hq.2.2 t1).1
    have hd := hp.1
    have hvp := (hv.2.2.2 t1).1
    have hok := hvp.1
    have hb := hok.b
    have hkk := hok.k
    have hwh := hok.w
    have hch := chN_le α.2.2.2.1.2.1.2.2.2
    have hc64 := hvp.2.1.1
    have hx6 := hvp.2.2.1.1
    refine go_iconst (v := 0) dRef_found_8 (by decide) ?_
    refine go_goto (tgt := 13) dRef_found_9 ?_
    refine go_putf dRef_found_13 qf_Ref_59 pw_8_0 hR.1 rfl rfl ?_
    refine go_aload_n dRef_found_16 rfl ?_
    refine go_getf dRef_found_17 qf_Ref_59 (pmU_s _ _ _) rfl ?_
    refine go_if_le (tgt := 25) dRef_found_20 (fun _ => ?_) (fun cc => absurd (by decide) cc)
    refine go_nm (fun hnk2 enk2 => ?_)
    have gsk2 : Sm h hnk2 m 17 := by rw [enk2]; exact (Sm.put' (Sm.refl _ _ _) _ (by omega) (by omega))
    have hRk2 : RfA hnk2 m (upd g 0 0) (A) := ⟨(congrFun enk2 m).trans (pmU_s _ _ _), (congrFun enk2 (m + 1)).trans ((pmU_n _ _ (by omega)).trans hR.2.1), (congrFun enk2 (m + 2)).trans ((pmU_n _ _ (by omega)).trans hR.2.2.1), (congrFun enk2 (m + 3)).trans ((pmU_n _ _ (by omega)).trans hR.2.2.2.1), (congrFun enk2 (m + 4)).trans ((pmU_n _ _ (by omega)).trans hR.2.2.2.2.1), (congrFun enk2 (m + 5)).trans ((pmU_n _ _ (by omega)).trans hR.2.2.2.2.2.1), (congrFun enk2 (m + 6)).trans ((pmU_n _ _ (by omega)).trans hR.2.2.2.2.2.2.1), (congrFun enk2 (m + 7)).trans ((pmU_n _ _ (by omega)).trans hR.2.2.2.2.2.2.2.1), (congrFun enk2 (m + 8)).trans ((pmU_n _ _ (by omega)).trans hR.2.2.2.2.2.2.2.2.1), (congrFun enk2 (m + 9)).trans ((pmU_n _ _ (by omega)).trans hR.2.2.2.2.2.2.2.2.2.1), (congrFun enk2 (m + 10)).trans ((pmU_n _ _ (by omega)).trans hR.2.2.2.2.2.2.2.2.2.2.1), (congrFun enk2 (m + 11)).trans ((pmU_n _ _ (by omega)).trans hR.2.2.2.2.2.2.2.2.2.2.2.1), (congrFun enk2 (m + 12)).trans ((pmU_n _ _ (by omega)).trans hR.2.2.2.2.2.2.2.2.2.2.2.2.1), (congrFun enk2 (m + 13)).trans ((pmU_n _ _ (by omega)).trans hR.2.2.2.2.2.2.2.2.2.2.2.2.2.1), (congrFun enk2 (m + 14)).trans ((pmU_n _ _ (by omega)).trans hR.2.2.2.2.2.2.2.2.2.2.2.2.2.2.1), (congrFun enk2 (m + 15)).trans ((pmU_n _ _ (by omega)).trans hR.2.2.2.2.2.2.2.2.2.2.2.2.2.2.2.1), (congrFun enk2 (m + 16)).trans ((pmU_n _ _ (by omega)).trans hR.2.2.2.2.2.2.2.2.2.2.2.2.2.2.2.2)⟩
    have sk2 := hs.trans gsk2
    refine go_iload_n dRef_found_25 rfl ?_
    refine go_by (0) (fun s2 => ?_) (fun s2 => ?_)
    · refine go_tableIn (tgt := 80) (off := 54) dRef_found_26 (by decide) (by decide) (by decide) ?_
      refine go_aload_n dRef_found_80 rfl ?_
      refine go_getf dRef_found_81 qf_Ref_233 hRk2.1 rfl ?_
      refine go_iret dRef_found_84 rfl rfl ?_ (Nat.le_of_ble_eq_true rfl) (Nat.le_of_ble_eq_true rfl)
      exact retR_ok (β := α) (by rw [foF, if_neg t1, foV, if_pos s2, ← hd.1]; rfl) hRk2 hr rfl sk2
    refine go_by (1) (fun s3 => ?_) (fun s3 => ?_)
    · refine go_tableIn (tgt := 85) (off := 59) dRef_found_26 (by decide) (by decide) (by decide) ?_
      refine go_aload_n dRef_found_85 rfl ?_
      refine go_getf dRef_found_86 qf_Ref_236 hRk2.1 rfl ?_
      refine go_iret dRef_found_89 rfl rfl ?_ (Nat.le_of_ble_eq_true rfl) (Nat.le_of_ble_eq_true rfl)
      exact retR_ok (β := α) (by rw [foF, if_neg t1, foV, if_neg s2, if_pos s3, ← hd.2.1]; rfl) hRk2 hr rfl sk2
    refine go_by (2) (fun s4 => ?_) (fun s4 => ?_)
    · refine go_tableIn (tgt := 90) (off := 64) dRef_found_26 (by decide) (by decide) (by decide) ?_
      refine go_aload_n dRef_found_90 rfl ?_
      refine go_getf dRef_found_91 qf_Ref_239 hRk2.1 rfl ?_
      refine go_iret dRef_found_94 rfl rfl ?_ (Nat.le_of_ble_eq_true rfl) (Nat.le_of_ble_eq_true rfl)
      exact retR_ok (β := α) (by rw [foF, if_neg t1, foV, if_neg s2, if_neg s3, if_pos s4, ← hd.2.2.1]; rfl) hRk2 hr rfl sk2
    refine go_by (3) (fun s5 => ?_) (fun s5 => ?_)
    · refine go_tableIn (tgt := 95) (off := 69) dRef_found_26 (by decide) (by decide) (by decide) ?_
      refine go_aload_n dRef_found_95 rfl ?_
      refine go_getf dRef_found_96 qf_Ref_224 hRk2.1 rfl ?_
      refine go_iret dRef_found_99 rfl rfl ?_ (Nat.le_of_ble_eq_true rfl) (Nat.le_of_ble_eq_true rfl)
      exact retR_ok (β := α) (by rw [foF, if_neg t1, foV, if_neg s2, if_neg s3, if_neg s4, if_pos s5, ← hd.2.2.2]; rfl) hRk2 hr rfl sk2
    refine go_by (4) (fun s6 => ?_) (fun s6 => ?_)
    · refine go_tableIn (tgt := 100) (off := 74) dRef_found_26 (by decide) (by decide) (by decide) ?_
      refine go_aload_n dRef_found_100 rfl ?_
      refine go_getf dRef_found_101 qf_Ref_242 hRk2.1 rfl ?_
      refine go_iret dRef_found_104 rfl rfl ?_ (Nat.le_of_ble_eq_true rfl) (Nat.le_of_ble_eq_true rfl)
      exact retR_ok (β := α) (by rw [foF, if_neg t1, foV, if_neg s2, if_neg s3, if_neg s4, if_neg s5, if_pos s6, ← hp.2.2.2.1.1]; rfl) hRk2 hr rfl sk2
    refine go_by (5) (fun s7 => ?_) (fun s7 => ?_)
    · refine go_tableIn (tgt := 105) (off := 79) dRef_found_26 (by decide) (by decide) (by decide) ?_
      refine go_aload_n dRef_found_105 rfl ?_
      refine go_getf dRef_found_106 qf_Ref_34 hRk2.1 rfl ?_
      refine go_iload_n dRef_found_109 rfl ?_
      refine go_iconst (v := 5) dRef_found_110 (by decide) ?_
      refine go_isub dRef_found_111 ?_
      refine go_top (y := nI 0) (by rw [s7]; rfl) ?_
      refine go_iald dRef_found_112 hRk2.2.2.2.2.2.2.2.2.2.1 (by exact vp_in_nI (by omega) (by omega)) (congrArg _ (nI_clamp (by omega))) ?_
      refine go_iret dRef_found_113 rfl rfl ?_ (Nat.le_of_ble_eq_true rfl) (Nat.le_of_ble_eq_true rfl)
      exact retR_ok (β := α) (by rw [foF, if_neg t1, foV, if_neg s2, if_neg s3, if_neg s4, if_neg s5, if_neg s6, if_pos s7, ← hp.2.2.1 0 (by omega)]) hRk2 hr rfl sk2
    refine go_by (6) (fun s8 => ?_) (fun s8 => ?_)
    · refine go_tableIn (tgt := 105) (off := 79) dRef_found_26 (by decide) (by decide) (by decide) ?_
      refine go_aload_n dRef_found_105 rfl ?_
      refine go_getf dRef_found_106 qf_Ref_34 hRk2.1 rfl ?_
      refine go_iload_n dRef_found_109 rfl ?_
      refine go_iconst (v := 5) dRef_found_110 (by decide) ?_
      refine go_isub dRef_found_111 ?_
      refine go_top (y := nI 1) (by rw [s8]; rfl) ?_
      refine go_iald dRef_found_112 hRk2.2.2.2.2.2.2.2.2.2.1 (by exact vp_in_nI (by omega) (by omega)) (congrArg _ (nI_clamp (by omega))) ?_
      refine go_iret dRef_found_113 rfl rfl ?_ (Nat.le_of_ble_eq_true rfl) (Nat.le_of_ble_eq_true rfl)
      exact retR_ok (β := α) (by rw [foF, if_neg t1, foV, if_neg s2, if_neg s3, if_neg s4, if_neg s5, if_neg s6, if_neg s7, if_pos s8, ← hp.2.2.1 1 (by omega)]) hRk2 hr rfl sk2
    refine go_by (7) (fun s9 => ?_) (fun s9 => ?_)
    · refine go_tableIn (tgt := 105) (off := 79) dRef_found_26 (by decide) (by decide) (by decide) ?_
      refine go_aload_n dRef_found_105 rfl ?_
      refine go_getf dRef_found_106 qf_Ref_34 hRk2.1 rfl ?_
      refine go_iload_n dRef_found_109 rfl ?_
      refine go_iconst (v := 5) dRef_found_110 (by decide) ?_
      refine go_isub dRef_found_111 ?_
      refine go_top (y := nI 2) (by rw [s9]; rfl) ?_
      refine go_iald dRef_found_112 hRk2.2.2.2.2.2.2.2.2.2.1 (by exact vp_in_nI (by omega) (by omega)) (congrArg _ (nI_clamp (by omega))) ?_
      refine go_iret dRef_found_113 rfl rfl ?_ (Nat.le_of_ble_eq_true rfl) (Nat.le_of_ble_eq_true rfl)
      exact retR_ok (β := α) (by rw [foF, if_neg t1, foV, if_neg s2, if_neg s3, if_neg s4, if_neg s5, if_neg s6, if_neg s7, if_neg s8, if_pos s9, ← hp.2.2.1 2 (by omega)]) hRk2 hr rfl sk2
    refine go_by (8) (fun s10 => ?_) (fun s10 => ?_)
    · refine go_tableIn (tgt := 114) (off := 88) dRef_found_26 (by decide) (by decide) (by decide) ?_
      refine go_aload_n dRef_found_114 rfl ?_
      refine go_getf dRef_found_115 qf_Ref_248 hRk2.1 rfl ?_
      refine go_iret dRef_found_118 rfl rfl ?_ (Nat.le_of_ble_eq_true rfl) (Nat.le_of_ble_eq_true rfl)
      exact retR_ok (β := α) (by rw [foF, if_neg t1, foV, if_neg s2, if_neg s3, if_neg s4, if_neg s5, if_neg s6, if_neg s7, if_neg s8, if_neg s9, if_pos s10, ← hp.2.2.2.2.1]; rfl) hRk2 hr rfl sk2
    refine go_by (9) (fun s11 => ?_) (fun s11 => ?_)
    · refine go_tableIn (tgt := 119) (off := 93) dRef_found_26 (by decide) (by decide) (by decide) ?_
      refine go_aload_n dRef_found_119 rfl ?_
      refine go_getf dRef_found_120 qf_Ref_277 hRk2.1 rfl ?_
      refine go_iret dRef_found_123 rfl rfl ?_ (Nat.le_of_ble_eq_true rfl) (Nat.le_of_ble_eq_true rfl)
      exact retR_ok (β := α) (by rw [foF, if_neg t1, foV, if_neg s2, if_neg s3, if_neg s4, if_neg s5, if_neg s6, if_neg s7, if_neg s8, if_neg s9, if_neg s10, if_pos s11, ← (hq.2.2 t1).2]; rfl) hRk2 hr rfl sk2
    refine go_tableOut (tgt := 124) dRef_found_26 (by have a0 := lv_neT s2 (a := 0) (by decide); have a1 := lv_neT s3 (a := 1) (by decide); have a2 := lv_neT s4 (a := 2) (by decide); have a3 := lv_neT s5 (a := 3) (by decide); have a4 := lv_neT s6 (a := 4) (by decide); have a5 := lv_neT s7 (a := 5) (by decide); have a6 := lv_neT s8 (a := 6) (by decide); have a7 := lv_neT s9 (a := 7) (by decide); have a8 := lv_neT s10 (a := 8) (by decide); have a9 := lv_neT s11 (a := 9) (by decide); omega) ?_
    refine go_iconst (v := -1) dRef_found_124 (by decide) ?_
    refine go_iret dRef_found_125 rfl rfl ?_ (Nat.le_of_ble_eq_true rfl) (Nat.le_of_ble_eq_true rfl)
    exact retR_ok (β := α) (by rw [foF, if_neg t1, foV, if_neg s2, if_neg s3, if_neg s4, if_neg s5, if_neg s6, if_neg s7, if_neg s8, if_neg s9, if_neg s10, if_neg s11]) hRk2 hr rfl sk2
set_option maxHeartbeats 4000000 in
theorem r_entry {E : pmEv} {h : pmH} {m : Nat} {g : Nat → Int32} {A : Nat → Nat → Int32} {α : aPF} {a1 a2 : Int32} (hR : RfA h m g A) (hr : RR g A α) (hv : IvA α) : Call E mRef_entry [.ref m, .int a1, .int a2] h none 0 0 (RetR m h [1, 3, 2] (some (.int 0)) (eyF α a1 a2)) := by
  have hs : Sm h h m 17 := Sm.refl _ _ _
  have ho := hr.1
  have ht : g 1 = 0 ↔ ¬ α.1.1 = true := by rw [ho.1]; exact bI_0
  have hq := hr.2.2.2
  have ht2 : g 14 = 0 ↔ ¬ ¬ α.2.2.2.2.2 0 = 0 := by rw [hq.2.1]; exact bI_0
  refine call_of (L := [some (.ref m), some (.int a1), some (.int a2)]) ok_mRef_entry (Nat.le_of_ble_eq_true rfl) ?_
  refine go_aload_n dRef_entry_0 rfl ?_
  refine go_aload_n dRef_entry_1 rfl ?_
  refine go_getf dRef_entry_2 qf_Ref_274 hR.1 rfl ?_
  refine go_if_ne (tgt := 12) dRef_entry_5 (fun c1 => ?_) (fun c1 => ?_)
  · have t1 : ¬ α.2.2.2.2.2 0 = 0 := Decidable.not_not.mp fun q => c1 (ht2.mpr q)
    have hp := (hq.2.2 t1).1
    have hd := hp.1
    have hvp := (hv.2.2.2 t1).1
    have hok := hvp.1
    have hb := hok.b
    have hkk := hok.k
    have hwh := hok.w
    have hch := chN_le α.2.2.2.1.2.1.2.2.2
    have hc64 := hvp.2.1.1
    have hx6 := hvp.2.2.1.1
    refine go_iload_n dRef_entry_12 rfl ?_
    refine go_if_lt (tgt := 24) dRef_entry_13 (fun c2 => ?_) (fun c2 => ?_)
    · refine go_iconst (v := 2) dRef_entry_24 (by decide) ?_
      refine go_goto (tgt := 42) dRef_entry_25 ?_
      refine go_putf dRef_entry_42 qf_Ref_59 pw_8_0 hR.1 rfl rfl ?_
      refine go_aload_n dRef_entry_45 rfl ?_
      refine go_getf dRef_entry_46 qf_Ref_59 (pmU_s _ _ _) rfl ?_
      refine go_if_le (tgt := 56) dRef_entry_49 (fun cc => absurd cc (by decide)) (fun _ => ?_)
      refine go_nm (fun hnk1 enk1 => ?_)
      have gsk1 : Sm h hnk1 m 17 := by rw [enk1]; exact (Sm.put' (Sm.refl _ _ _) _ (by omega) (by omega))
      have hRk1 : RfA hnk1 m (upd g 0 2) (A) := ⟨(congrFun enk1 m).trans (pmU_s _ _ _), (congrFun enk1 (m + 1)).trans ((pmU_n _ _ (by omega)).trans hR.2.1), (congrFun enk1 (m + 2)).trans ((pmU_n _ _ (by omega)).trans hR.2.2.1), (congrFun enk1 (m + 3)).trans ((pmU_n _ _ (by omega)).trans hR.2.2.2.1), (congrFun enk1 (m + 4)).trans ((pmU_n _ _ (by omega)).trans hR.2.2.2.2.1), (congrFun enk1 (m + 5)).trans ((pmU_n _ _ (by omega)).trans hR.2.2.2.2.2.1), (congrFun enk1 (m + 6)).trans ((pmU_n _ _ (by omega)).trans hR.2.2.2.2.2.2.1), (congrFun enk1 (m + 7)).trans ((pmU_n _ _ (by omega)).trans hR.2.2.2.2.2.2.2.1), (congrFun enk1 (m + 8)).trans ((pmU_n _ _ (by omega)).trans hR.2.2.2.2.2.2.2.2.1), (congrFun enk1 (m + 9)).trans ((pmU_n _ _ (by omega)).trans hR.2.2.2.2.2.2.2.2.2.1), (congrFun enk1 (m + 10)).trans ((pmU_n _ _ (by omega)).trans hR.2.2.2.2.2.2.2.2.2.2.1), (congrFun enk1 (m + 11)).trans ((pmU_n _ _ (by omega)).trans hR.2.2.2.2.2.2.2.2.2.2.2.1), (congrFun enk1 (m + 12)).trans ((pmU_n _ _ (by omega)).trans hR.2.2.2.2.2.2.2.2.2.2.2.2.1), (congrFun enk1 (m + 13)).trans ((pmU_n _ _ (by omega)).trans hR.2.2.2.2.2.2.2.2.2.2.2.2.2.1), (congrFun enk1 (m + 14)).trans ((pmU_n _ _ (by omega)).trans hR.2.2.2.2.2.2.2.2.2.2.2.2.2.2.1), (congrFun enk1 (m + 15)).trans ((pmU_n _ _ (by omega)).trans hR.2.2.2.2.2.2.2.2.2.2.2.2.2.2.2.1), (congrFun enk1 (m + 16)).trans ((pmU_n _ _ (by omega)).trans hR.2.2.2.2.2.2.2.2.2.2.2.2.2.2.2.2)⟩
      have sk1 := hs.trans gsk1
      refine go_iconst (v := 0) dRef_entry_52 (by decide) ?_
      refine go_goto (tgt := 66) dRef_entry_53 ?_
      skip
      refine go_iret dRef_entry_66 rfl rfl ?_ (Nat.le_of_ble_eq_true rfl) (Nat.le_of_ble_eq_true rfl)
      exact retR_no (by rw [eyF, if_neg t1, if_pos (fun q => absurd q.1 (Int32.not_le.mpr c2))]) hRk1 hr rfl sk1
    · refine go_iload_n dRef_entry_16 rfl ?_
      refine go_aload_n dRef_entry_17 rfl ?_
      refine go_getf dRef_entry_18 qf_Ref_242 hR.1 rfl ?_
      refine go_top (y := nI α.2.2.2.1.2.2.2.1.2) (by exact hp.2.2.2.1.1) ?_
      refine go_icmp_lt (tgt := 28) dRef_entry_21 (fun c3 => ?_) (fun c3 => ?_)
      · refine go_iload_n dRef_entry_28 rfl ?_
        refine go_if_lt (tgt := 37) dRef_entry_29 (fun c4 => ?_) (fun c4 => ?_)
        · refine go_iconst (v := 3) dRef_entry_37 (by decide) ?_
          refine go_goto (tgt := 42) dRef_entry_38 ?_
          refine go_putf dRef_entry_42 qf_Ref_59 pw_8_0 hR.1 rfl rfl ?_
          refine go_aload_n dRef_entry_45 rfl ?_
          refine go_getf dRef_entry_46 qf_Ref_59 (pmU_s _ _ _) rfl ?_
          refine go_if_le (tgt := 56) dRef_entry_49 (fun cc => absurd cc (by decide)) (fun _ => ?_)
          refine go_nm (fun hnk2 enk2 => ?_)
          have gsk2 : Sm h hnk2 m 17 := by rw [enk2]; exact (Sm.put' (Sm.refl _ _ _) _ (by omega) (by omega))
          have hRk2 : RfA hnk2 m (upd g 0 3) (A) := ⟨(congrFun enk2 m).trans (pmU_s _ _ _), (congrFun enk2 (m + 1)).trans ((pmU_n _ _ (by omega)).trans hR.2.1), (congrFun enk2 (m + 2)).trans ((pmU_n _ _ (by omega)).trans hR.2.2.1), (congrFun enk2 (m + 3)).trans ((pmU_n _ _ (by omega)).trans hR.2.2.2.1), (congrFun enk2 (m + 4)).trans ((pmU_n _ _ (by omega)).trans hR.2.2.2.2.1), (congrFun enk2 (m + 5)).trans ((pmU_n _ _ (by omega)).trans hR.2.2.2.2.2.1), (congrFun enk2 (m + 6)).trans ((pmU_n _ _ (by omega)).trans hR.2.2.2.2.2.2.1), (congrFun enk2 (m + 7)).trans ((pmU_n _ _ (by omega)).trans hR.2.2.2.2.2.2.2.1), (congrFun enk2 (m + 8)).trans ((pmU_n _ _ (by omega)).trans hR.2.2.2.2.2.2.2.2.1), (congrFun enk2 (m + 9)).trans ((pmU_n _ _ (by omega)).trans hR.2.2.2.2.2.2.2.2.2.1), (congrFun enk2 (m + 10)).trans ((pmU_n _ _ (by omega)).trans hR.2.2.2.2.2.2.2.2.2.2.1), (congrFun enk2 (m + 11)).trans ((pmU_n _ _ (by omega)).trans hR.2.2.2.2.2.2.2.2.2.2.2.1), (congrFun enk2 (m + 12)).trans ((pmU_n _ _ (by omega)).trans hR.2.2.2.2.2.2.2.2.2.2.2.2.1), (congrFun enk2 (m + 13)).trans ((pmU_n _ _ (by omega)).trans hR.2.2.2.2.2.2.2.2.2.2.2.2.2.1), (congrFun enk2 (m + 14)).trans ((pmU_n _ _ (by omega)).trans hR.2.2.2.2.2.2.2.2.2.2.2.2.2.2.1), (congrFun enk2 (m + 15)).trans ((pmU_n _ _ (by omega)).trans hR.2.2.2.2.2.2.2.2.2.2.2.2.2.2.2.1), (congrFun enk2 (m + 16)).trans ((pmU_n _ _ (by omega)).trans hR.2.2.2.2.2.2.2.2.2.2.2.2.2.2.2.2)⟩
          have sk2 := hs.trans gsk2
          refine go_iconst (v := 0) dRef_entry_52 (by decide) ?_
          refine go_goto (tgt := 66) dRef_entry_53 ?_
          skip
          refine go_iret dRef_entry_66 rfl rfl ?_ (Nat.le_of_ble_eq_true rfl) (Nat.le_of_ble_eq_true rfl)
          exact retR_no (by rw [eyF, if_neg t1, if_neg (fun q => q ⟨Int32.not_lt.mp c2, c3⟩), if_pos (fun q => absurd q.1 (Int32.not_le.mpr c4))]) hRk2 hr rfl sk2
        · refine go_iload_n dRef_entry_32 rfl ?_
          refine go_iconst (v := 3) dRef_entry_33 (by decide) ?_
          refine go_icmp_le (tgt := 41) dRef_entry_34 (fun c5 => ?_) (fun c5 => ?_)
          · refine go_iconst (v := 0) dRef_entry_41 (by decide) ?_
            refine go_putf dRef_entry_42 qf_Ref_59 pw_8_0 hR.1 rfl rfl ?_
            refine go_aload_n dRef_entry_45 rfl ?_
            refine go_getf dRef_entry_46 qf_Ref_59 (pmU_s _ _ _) rfl ?_
            refine go_if_le (tgt := 56) dRef_entry_49 (fun _ => ?_) (fun cc => absurd (by decide) cc)
            have c6 : 0 ≤ a2 ∧ a2 < 4 := ⟨Int32.not_lt.mp c4, lt_4 c5⟩
            obtain ⟨k5, hk5, rfl⟩ := has_ex (by omega) ⟨Int32.not_lt.mp c2, c3⟩
            obtain ⟨w5, hw5, rfl⟩ := has_ex (c := 4) (by omega) c6
            refine go_aload_n dRef_entry_56 rfl ?_
            refine go_getf dRef_entry_57 qf_Ref_31 (pmU_s _ _ _) rfl ?_
            refine go_iconst (v := 4) dRef_entry_60 (by decide) ?_
            refine go_iload_n dRef_entry_61 rfl ?_
            refine go_imul dRef_entry_62 ?_
            refine go_iload_n dRef_entry_63 rfl ?_
            refine go_iadd dRef_entry_64 ?_
            refine go_top (y := nI (4 * k5 + w5)) (by rw [show (4 : Int32) = nI 4 from rfl, pk_mul, nI_add]) ?_
            refine go_iald dRef_entry_65 ((pmU_n _ _ (by omega)).trans hR.2.2.2.2.2.2.2.2.1) (by exact vp_in_nI (by omega) (by omega)) (congrArg _ (nI_clamp (by omega))) ?_
            refine go_nm (fun hnk3 enk3 => ?_)
            have gsk3 : Sm h hnk3 m 17 := by rw [enk3]; exact (Sm.put' (Sm.refl _ _ _) _ (by omega) (by omega))
            have hRk3 : RfA hnk3 m (upd g 0 0) (A) := ⟨(congrFun enk3 m).trans (pmU_s _ _ _), (congrFun enk3 (m + 1)).trans ((pmU_n _ _ (by omega)).trans hR.2.1), (congrFun enk3 (m + 2)).trans ((pmU_n _ _ (by omega)).trans hR.2.2.1), (congrFun enk3 (m + 3)).trans ((pmU_n _ _ (by omega)).trans hR.2.2.2.1), (congrFun enk3 (m + 4)).trans ((pmU_n _ _ (by omega)).trans hR.2.2.2.2.1), (congrFun enk3 (m + 5)).trans ((pmU_n _ _ (by omega)).trans hR.2.2.2.2.2.1), (congrFun enk3 (m + 6)).trans ((pmU_n _ _ (by omega)).trans hR.2.2.2.2.2.2.1), (congrFun enk3 (m + 7)).trans ((pmU_n _ _ (by omega)).trans hR.2.2.2.2.2.2.2.1), (congrFun enk3 (m + 8)).trans ((pmU_n _ _ (by omega)).trans hR.2.2.2.2.2.2.2.2.1), (congrFun enk3 (m + 9)).trans ((pmU_n _ _ (by omega)).trans hR.2.2.2.2.2.2.2.2.2.1), (congrFun enk3 (m + 10)).trans ((pmU_n _ _ (by omega)).trans hR.2.2.2.2.2.2.2.2.2.2.1), (congrFun enk3 (m + 11)).trans ((pmU_n _ _ (by omega)).trans hR.2.2.2.2.2.2.2.2.2.2.2.1), (congrFun enk3 (m + 12)).trans ((pmU_n _ _ (by omega)).trans hR.2.2.2.2.2.2.2.2.2.2.2.2.1), (congrFun enk3 (m + 13)).trans ((pmU_n _ _ (by omega)).trans hR.2.2.2.2.2.2.2.2.2.2.2.2.2.1), (congrFun enk3 (m + 14)).trans ((pmU_n _ _ (by omega)).trans hR.2.2.2.2.2.2.2.2.2.2.2.2.2.2.1), (congrFun enk3 (m + 15)).trans ((pmU_n _ _ (by omega)).trans hR.2.2.2.2.2.2.2.2.2.2.2.2.2.2.2.1), (congrFun enk3 (m + 16)).trans ((pmU_n _ _ (by omega)).trans hR.2.2.2.2.2.2.2.2.2.2.2.2.2.2.2.2)⟩
            have sk3 := hs.trans gsk3
            refine go_iret dRef_entry_66 rfl rfl ?_ (Nat.le_of_ble_eq_true rfl) (Nat.le_of_ble_eq_true rfl)
            exact retR_ok (β := α) (by rw [eyF, if_neg t1, if_neg (fun q => q ⟨Int32.not_lt.mp c2, c3⟩), if_neg (fun q => q c6), nI_clamp (n := k5) (by omega), nI_clamp (n := w5) (by omega), hp.2.2.2.1.2 (4 * k5 + w5) (by omega)]) hRk3 hr rfl sk3
          · refine go_iconst (v := 3) dRef_entry_37 (by decide) ?_
            refine go_goto (tgt := 42) dRef_entry_38 ?_
            refine go_putf dRef_entry_42 qf_Ref_59 pw_8_0 hR.1 rfl rfl ?_
            refine go_aload_n dRef_entry_45 rfl ?_
            refine go_getf dRef_entry_46 qf_Ref_59 (pmU_s _ _ _) rfl ?_
            refine go_if_le (tgt := 56) dRef_entry_49 (fun cc => absurd cc (by decide)) (fun _ => ?_)
            refine go_nm (fun hnk4 enk4 => ?_)
            have gsk4 : Sm h hnk4 m 17 := by rw [enk4]; exact (Sm.put' (Sm.refl _ _ _) _ (by omega) (by omega))
            have hRk4 : RfA hnk4 m (upd g 0 3) (A) := ⟨(congrFun enk4 m).trans (pmU_s _ _ _), (congrFun enk4 (m + 1)).trans ((pmU_n _ _ (by omega)).trans hR.2.1), (congrFun enk4 (m + 2)).trans ((pmU_n _ _ (by omega)).trans hR.2.2.1), (congrFun enk4 (m + 3)).trans ((pmU_n _ _ (by omega)).trans hR.2.2.2.1), (congrFun enk4 (m + 4)).trans ((pmU_n _ _ (by omega)).trans hR.2.2.2.2.1), (congrFun enk4 (m + 5)).trans ((pmU_n _ _ (by omega)).trans hR.2.2.2.2.2.1), (congrFun enk4 (m + 6)).trans ((pmU_n _ _ (by omega)).trans hR.2.2.2.2.2.2.1), (congrFun enk4 (m + 7)).trans ((pmU_n _ _ (by omega)).trans hR.2.2.2.2.2.2.2.1), (congrFun enk4 (m + 8)).trans ((pmU_n _ _ (by omega)).trans hR.2.2.2.2.2.2.2.2.1), (congrFun enk4 (m + 9)).trans ((pmU_n _ _ (by omega)).trans hR.2.2.2.2.2.2.2.2.2.1), (congrFun enk4 (m + 10)).trans ((pmU_n _ _ (by omega)).trans hR.2.2.2.2.2.2.2.2.2.2.1), (congrFun enk4 (m + 11)).trans ((pmU_n _ _ (by omega)).trans hR.2.2.2.2.2.2.2.2.2.2.2.1), (congrFun enk4 (m + 12)).trans ((pmU_n _ _ (by omega)).trans hR.2.2.2.2.2.2.2.2.2.2.2.2.1), (congrFun enk4 (m + 13)).trans ((pmU_n _ _ (by omega)).trans hR.2.2.2.2.2.2.2.2.2.2.2.2.2.1), (congrFun enk4 (m + 14)).trans ((pmU_n _ _ (by omega)).trans hR.2.2.2.2.2.2.2.2.2.2.2.2.2.2.1), (congrFun enk4 (m + 15)).trans ((pmU_n _ _ (by omega)).trans hR.2.2.2.2.2.2.2.2.2.2.2.2.2.2.2.1), (congrFun enk4 (m + 16)).trans ((pmU_n _ _ (by omega)).trans hR.2.2.2.2.2.2.2.2.2.2.2.2.2.2.2.2)⟩
            have sk4 := hs.trans gsk4
            refine go_iconst (v := 0) dRef_entry_52 (by decide) ?_
            refine go_goto (tgt := 66) dRef_entry_53 ?_
            skip
            refine go_iret dRef_entry_66 rfl rfl ?_ (Nat.le_of_ble_eq_true rfl) (Nat.le_of_ble_eq_true rfl)
            exact retR_no (by rw [eyF, if_neg t1, if_neg (fun q => q ⟨Int32.not_lt.mp c2, c3⟩), if_pos (fun q => c5 (le_3 q.2))]) hRk4 hr rfl sk4
      · refine go_iconst (v := 2) dRef_entry_24 (by decide) ?_
        refine go_goto (tgt := 42) dRef_entry_25 ?_
        refine go_putf dRef_entry_42 qf_Ref_59 pw_8_0 hR.1 rfl rfl ?_
        refine go_aload_n dRef_entry_45 rfl ?_
        refine go_getf dRef_entry_46 qf_Ref_59 (pmU_s _ _ _) rfl ?_
        refine go_if_le (tgt := 56) dRef_entry_49 (fun cc => absurd cc (by decide)) (fun _ => ?_)
        refine go_nm (fun hnk5 enk5 => ?_)
        have gsk5 : Sm h hnk5 m 17 := by rw [enk5]; exact (Sm.put' (Sm.refl _ _ _) _ (by omega) (by omega))
        have hRk5 : RfA hnk5 m (upd g 0 2) (A) := ⟨(congrFun enk5 m).trans (pmU_s _ _ _), (congrFun enk5 (m + 1)).trans ((pmU_n _ _ (by omega)).trans hR.2.1), (congrFun enk5 (m + 2)).trans ((pmU_n _ _ (by omega)).trans hR.2.2.1), (congrFun enk5 (m + 3)).trans ((pmU_n _ _ (by omega)).trans hR.2.2.2.1), (congrFun enk5 (m + 4)).trans ((pmU_n _ _ (by omega)).trans hR.2.2.2.2.1), (congrFun enk5 (m + 5)).trans ((pmU_n _ _ (by omega)).trans hR.2.2.2.2.2.1), (congrFun enk5 (m + 6)).trans ((pmU_n _ _ (by omega)).trans hR.2.2.2.2.2.2.1), (congrFun enk5 (m + 7)).trans ((pmU_n _ _ (by omega)).trans hR.2.2.2.2.2.2.2.1), (congrFun enk5 (m + 8)).trans ((pmU_n _ _ (by omega)).trans hR.2.2.2.2.2.2.2.2.1), (congrFun enk5 (m + 9)).trans ((pmU_n _ _ (by omega)).trans hR.2.2.2.2.2.2.2.2.2.1), (congrFun enk5 (m + 10)).trans ((pmU_n _ _ (by omega)).trans hR.2.2.2.2.2.2.2.2.2.2.1), (congrFun enk5 (m + 11)).trans ((pmU_n _ _ (by omega)).trans hR.2.2.2.2.2.2.2.2.2.2.2.1), (congrFun enk5 (m + 12)).trans ((pmU_n _ _ (by omega)).trans hR.2.2.2.2.2.2.2.2.2.2.2.2.1), (congrFun enk5 (m + 13)).trans ((pmU_n _ _ (by omega)).trans hR.2.2.2.2.2.2.2.2.2.2.2.2.2.1), (congrFun enk5 (m + 14)).trans ((pmU_n _ _ (by omega)).trans hR.2.2.2.2.2.2.2.2.2.2.2.2.2.2.1), (congrFun enk5 (m + 15)).trans ((pmU_n _ _ (by omega)).trans hR.2.2.2.2.2.2.2.2.2.2.2.2.2.2.2.1), (congrFun enk5 (m + 16)).trans ((pmU_n _ _ (by omega)).trans hR.2.2.2.2.2.2.2.2.2.2.2.2.2.2.2.2)⟩
        have sk5 := hs.trans gsk5
        refine go_iconst (v := 0) dRef_entry_52 (by decide) ?_
        refine go_goto (tgt := 66) dRef_entry_53 ?_
        skip
        refine go_iret dRef_entry_66 rfl rfl ?_ (Nat.le_of_ble_eq_true rfl) (Nat.le_of_ble_eq_true rfl)
        exact retR_no (by rw [eyF, if_neg t1, if_pos (fun q => c3 q.2)]) hRk5 hr rfl sk5
  · refine go_iconst (v := 1) dRef_entry_8 (by decide) ?_
    refine go_goto (tgt := 42) dRef_entry_9 ?_
    refine go_putf dRef_entry_42 qf_Ref_59 pw_8_0 hR.1 rfl rfl ?_
    refine go_aload_n dRef_entry_45 rfl ?_
    refine go_getf dRef_entry_46 qf_Ref_59 (pmU_s _ _ _) rfl ?_
    refine go_if_le (tgt := 56) dRef_entry_49 (fun cc => absurd cc (by decide)) (fun _ => ?_)
    refine go_nm (fun hnk6 enk6 => ?_)
    have gsk6 : Sm h hnk6 m 17 := by rw [enk6]; exact (Sm.put' (Sm.refl _ _ _) _ (by omega) (by omega))
    have hRk6 : RfA hnk6 m (upd g 0 1) (A) := ⟨(congrFun enk6 m).trans (pmU_s _ _ _), (congrFun enk6 (m + 1)).trans ((pmU_n _ _ (by omega)).trans hR.2.1), (congrFun enk6 (m + 2)).trans ((pmU_n _ _ (by omega)).trans hR.2.2.1), (congrFun enk6 (m + 3)).trans ((pmU_n _ _ (by omega)).trans hR.2.2.2.1), (congrFun enk6 (m + 4)).trans ((pmU_n _ _ (by omega)).trans hR.2.2.2.2.1), (congrFun enk6 (m + 5)).trans ((pmU_n _ _ (by omega)).trans hR.2.2.2.2.2.1), (congrFun enk6 (m + 6)).trans ((pmU_n _ _ (by omega)).trans hR.2.2.2.2.2.2.1), (congrFun enk6 (m + 7)).trans ((pmU_n _ _ (by omega)).trans hR.2.2.2.2.2.2.2.1), (congrFun enk6 (m + 8)).trans ((pmU_n _ _ (by omega)).trans hR.2.2.2.2.2.2.2.2.1), (congrFun enk6 (m + 9)).trans ((pmU_n _ _ (by omega)).trans hR.2.2.2.2.2.2.2.2.2.1), (congrFun enk6 (m + 10)).trans ((pmU_n _ _ (by omega)).trans hR.2.2.2.2.2.2.2.2.2.2.1), (congrFun enk6 (m + 11)).trans ((pmU_n _ _ (by omega)).trans hR.2.2.2.2.2.2.2.2.2.2.2.1), (congrFun enk6 (m + 12)).trans ((pmU_n _ _ (by omega)).trans hR.2.2.2.2.2.2.2.2.2.2.2.2.1), (congrFun enk6 (m + 13)).trans ((pmU_n _ _ (by omega)).trans hR.2.2.2.2.2.2.2.2.2.2.2.2.2.1), (congrFun enk6 (m + 14)).trans ((pmU_n _ _ (by omega)).trans hR.2.2.2.2.2.2.2.2.2.2.2.2.2.2.1), (congrFun enk6 (m + 15)).trans ((pmU_n _ _ (by omega)).trans hR.2.2.2.2.2.2.2.2.2.2.2.2.2.2.2.1), (congrFun enk6 (m + 16)).trans ((pmU_n _ _ (by omega)).trans hR.2.2.2.2.2.2.2.2.2.2.2.2.2.2.2.2)⟩
    have sk6 := hs.trans gsk6
    refine go_iconst (v := 0) dRef_entry_52 (by decide) ?_
    refine go_goto (tgt := 66) dRef_entry_53 ?_
    skip
    refine go_iret dRef_entry_66 rfl rfl ?_ (Nat.le_of_ble_eq_true rfl) (Nat.le_of_ble_eq_true rfl)
    exact retR_no (by rw [eyF, if_pos (Decidable.not_not.mp (ht2.mp c1))]) hRk6 hr rfl sk6
set_option maxHeartbeats 4000000 in
theorem r_unknown {E : pmEv} {h : pmH} {m : Nat} {g : Nat → Int32} {A : Nat → Nat → Int32} {α : aPF} {a1 a2 : Int32} (hR : RfA h m g A) (hr : RR g A α) (hv : IvA α) : Call E mRef_unknown [.ref m, .int a1, .int a2] h none 0 0 (RetR m h [1, 0, 2] (some (.int 0)) (unF α a1 a2)) := by
  have hs : Sm h h m 17 := Sm.refl _ _ _
  have ho := hr.1
  have ht : g 1 = 0 ↔ ¬ α.1.1 = true := by rw [ho.1]; exact bI_0
  have hq := hr.2.2.2
  have ht2 : g 14 = 0 ↔ ¬ ¬ α.2.2.2.2.2 0 = 0 := by rw [hq.2.1]; exact bI_0
  refine call_of (L := [some (.ref m), some (.int a1), some (.int a2)]) ok_mRef_unknown (Nat.le_of_ble_eq_true rfl) ?_
  refine go_aload_n dRef_unknown_0 rfl ?_
  refine go_aload_n dRef_unknown_1 rfl ?_
  refine go_getf dRef_unknown_2 qf_Ref_274 hR.1 rfl ?_
  refine go_if_ne (tgt := 12) dRef_unknown_5 (fun c1 => ?_) (fun c1 => ?_)
  · have t1 : ¬ α.2.2.2.2.2 0 = 0 := Decidable.not_not.mp fun q => c1 (ht2.mpr q)
    have hp := (hq.2.2 t1).1
    have hd := hp.1
    have hvp := (hv.2.2.2 t1).1
    have hok := hvp.1
    have hb := hok.b
    have hkk := hok.k
    have hwh := hok.w
    have hch := chN_le α.2.2.2.1.2.1.2.2.2
    have hc64 := hvp.2.1.1
    have hx6 := hvp.2.2.1.1
    refine go_iload_n dRef_unknown_12 rfl ?_
    refine go_if_lt (tgt := 24) dRef_unknown_13 (fun c2 => ?_) (fun c2 => ?_)
    · refine go_iconst (v := 2) dRef_unknown_24 (by decide) ?_
      refine go_goto (tgt := 29) dRef_unknown_25 ?_
      refine go_putf dRef_unknown_29 qf_Ref_59 pw_8_0 hR.1 rfl rfl ?_
      refine go_aload_n dRef_unknown_32 rfl ?_
      refine go_aload_n dRef_unknown_33 rfl ?_
      refine go_getf dRef_unknown_34 qf_Ref_59 (pmU_s _ _ _) rfl ?_
      refine go_if_ne (tgt := 59) dRef_unknown_37 (fun _ => ?_) (fun cc => absurd cc (by decide))
      refine go_aload_n dRef_unknown_59 rfl ?_
      refine go_getf dRef_unknown_60 qf_Ref_59 (pmU_s _ _ _) rfl ?_
      refine go_putf dRef_unknown_63 qf_Ref_59 pw_8_0 (pmU_s _ _ _) rfl rfl ?_
      refine go_aload_n dRef_unknown_66 rfl ?_
      refine go_getf dRef_unknown_67 qf_Ref_59 (pmU_s _ _ _) rfl ?_
      refine go_if_le (tgt := 77) dRef_unknown_70 (fun cc => absurd cc (by decide)) (fun _ => ?_)
      refine go_iconst (v := 0) dRef_unknown_73 (by decide) ?_
      refine go_goto (tgt := 101) dRef_unknown_74 ?_
      refine go_nm (fun hnk1 enk1 => ?_)
      have gsk1 : Sm h hnk1 m 17 := by rw [enk1]; exact (Sm.put' (Sm.put' (Sm.refl _ _ _) _ (by omega) (by omega)) _ (by omega) (by omega))
      have hRk1 : RfA hnk1 m (upd g 0 2) (A) := ⟨(congrFun enk1 m).trans (pmU_s _ _ _), (congrFun enk1 (m + 1)).trans ((pmU_n _ _ (by omega)).trans ((pmU_n _ _ (by omega)).trans hR.2.1)), (congrFun enk1 (m + 2)).trans ((pmU_n _ _ (by omega)).trans ((pmU_n _ _ (by omega)).trans hR.2.2.1)), (congrFun enk1 (m + 3)).trans ((pmU_n _ _ (by omega)).trans ((pmU_n _ _ (by omega)).trans hR.2.2.2.1)), (congrFun enk1 (m + 4)).trans ((pmU_n _ _ (by omega)).trans ((pmU_n _ _ (by omega)).trans hR.2.2.2.2.1)), (congrFun enk1 (m + 5)).trans ((pmU_n _ _ (by omega)).trans ((pmU_n _ _ (by omega)).trans hR.2.2.2.2.2.1)), (congrFun enk1 (m + 6)).trans ((pmU_n _ _ (by omega)).trans ((pmU_n _ _ (by omega)).trans hR.2.2.2.2.2.2.1)), (congrFun enk1 (m + 7)).trans ((pmU_n _ _ (by omega)).trans ((pmU_n _ _ (by omega)).trans hR.2.2.2.2.2.2.2.1)), (congrFun enk1 (m + 8)).trans ((pmU_n _ _ (by omega)).trans ((pmU_n _ _ (by omega)).trans hR.2.2.2.2.2.2.2.2.1)), (congrFun enk1 (m + 9)).trans ((pmU_n _ _ (by omega)).trans ((pmU_n _ _ (by omega)).trans hR.2.2.2.2.2.2.2.2.2.1)), (congrFun enk1 (m + 10)).trans ((pmU_n _ _ (by omega)).trans ((pmU_n _ _ (by omega)).trans hR.2.2.2.2.2.2.2.2.2.2.1)), (congrFun enk1 (m + 11)).trans ((pmU_n _ _ (by omega)).trans ((pmU_n _ _ (by omega)).trans hR.2.2.2.2.2.2.2.2.2.2.2.1)), (congrFun enk1 (m + 12)).trans ((pmU_n _ _ (by omega)).trans ((pmU_n _ _ (by omega)).trans hR.2.2.2.2.2.2.2.2.2.2.2.2.1)), (congrFun enk1 (m + 13)).trans ((pmU_n _ _ (by omega)).trans ((pmU_n _ _ (by omega)).trans hR.2.2.2.2.2.2.2.2.2.2.2.2.2.1)), (congrFun enk1 (m + 14)).trans ((pmU_n _ _ (by omega)).trans ((pmU_n _ _ (by omega)).trans hR.2.2.2.2.2.2.2.2.2.2.2.2.2.2.1)), (congrFun enk1 (m + 15)).trans ((pmU_n _ _ (by omega)).trans ((pmU_n _ _ (by omega)).trans hR.2.2.2.2.2.2.2.2.2.2.2.2.2.2.2.1)), (congrFun enk1 (m + 16)).trans ((pmU_n _ _ (by omega)).trans ((pmU_n _ _ (by omega)).trans hR.2.2.2.2.2.2.2.2.2.2.2.2.2.2.2.2))⟩
      have sk1 := hs.trans gsk1
      refine go_iret dRef_unknown_101 rfl rfl ?_ (Nat.le_of_ble_eq_true rfl) (Nat.le_of_ble_eq_true rfl)
      exact retR_no (by rw [unF, if_neg t1, if_pos (fun q => absurd q.1 (Int32.not_le.mpr c2))]) hRk1 hr rfl sk1
    · refine go_iload_n dRef_unknown_16 rfl ?_
      refine go_aload_n dRef_unknown_17 rfl ?_
      refine go_getf dRef_unknown_18 qf_Ref_248 hR.1 rfl ?_
      refine go_top (y := nI α.2.2.2.1.2.2.2.2.2.2.2.2) (by exact hp.2.2.2.2.1) ?_
      refine go_icmp_lt (tgt := 28) dRef_unknown_21 (fun c3 => ?_) (fun c3 => ?_)
      · obtain ⟨k5, hk5, rfl⟩ := has_ex (by omega) ⟨Int32.not_lt.mp c2, c3⟩
        have hE := hp.2.2.2.2.2
        have hz5 := hE.2.1 k5 hk5
        refine go_iconst (v := 0) dRef_unknown_28 (by decide) ?_
        refine go_putf dRef_unknown_29 qf_Ref_59 pw_8_0 hR.1 rfl rfl ?_
        refine go_aload_n dRef_unknown_32 rfl ?_
        refine go_aload_n dRef_unknown_33 rfl ?_
        refine go_getf dRef_unknown_34 qf_Ref_59 (pmU_s _ _ _) rfl ?_
        refine go_if_ne (tgt := 59) dRef_unknown_37 (fun cc => absurd rfl cc) (fun _ => ?_)
        refine go_iload_n dRef_unknown_40 rfl ?_
        refine go_iconst (v := -1) dRef_unknown_41 (by decide) ?_
        refine go_icmp_lt (tgt := 55) dRef_unknown_42 (fun c4 => ?_) (fun c4 => ?_)
        · refine go_iconst (v := 2) dRef_unknown_55 (by decide) ?_
          refine go_goto (tgt := 63) dRef_unknown_56 ?_
          refine go_putf dRef_unknown_63 qf_Ref_59 pw_8_0 (pmU_s _ _ _) rfl rfl ?_
          refine go_aload_n dRef_unknown_66 rfl ?_
          refine go_getf dRef_unknown_67 qf_Ref_59 (pmU_s _ _ _) rfl ?_
          refine go_if_le (tgt := 77) dRef_unknown_70 (fun cc => absurd cc (by decide)) (fun _ => ?_)
          refine go_iconst (v := 0) dRef_unknown_73 (by decide) ?_
          refine go_goto (tgt := 101) dRef_unknown_74 ?_
          refine go_nm (fun hnk2 enk2 => ?_)
          have gsk2 : Sm h hnk2 m 17 := by rw [enk2]; exact (Sm.put' (Sm.put' (Sm.refl _ _ _) _ (by omega) (by omega)) _ (by omega) (by omega))
          have hRk2 : RfA hnk2 m (upd g 0 2) (A) := ⟨(congrFun enk2 m).trans (pmU_s _ _ _), (congrFun enk2 (m + 1)).trans ((pmU_n _ _ (by omega)).trans ((pmU_n _ _ (by omega)).trans hR.2.1)), (congrFun enk2 (m + 2)).trans ((pmU_n _ _ (by omega)).trans ((pmU_n _ _ (by omega)).trans hR.2.2.1)), (congrFun enk2 (m + 3)).trans ((pmU_n _ _ (by omega)).trans ((pmU_n _ _ (by omega)).trans hR.2.2.2.1)), (congrFun enk2 (m + 4)).trans ((pmU_n _ _ (by omega)).trans ((pmU_n _ _ (by omega)).trans hR.2.2.2.2.1)), (congrFun enk2 (m + 5)).trans ((pmU_n _ _ (by omega)).trans ((pmU_n _ _ (by omega)).trans hR.2.2.2.2.2.1)), (congrFun enk2 (m + 6)).trans ((pmU_n _ _ (by omega)).trans ((pmU_n _ _ (by omega)).trans hR.2.2.2.2.2.2.1)), (congrFun enk2 (m + 7)).trans ((pmU_n _ _ (by omega)).trans ((pmU_n _ _ (by omega)).trans hR.2.2.2.2.2.2.2.1)), (congrFun enk2 (m + 8)).trans ((pmU_n _ _ (by omega)).trans ((pmU_n _ _ (by omega)).trans hR.2.2.2.2.2.2.2.2.1)), (congrFun enk2 (m + 9)).trans ((pmU_n _ _ (by omega)).trans ((pmU_n _ _ (by omega)).trans hR.2.2.2.2.2.2.2.2.2.1)), (congrFun enk2 (m + 10)).trans ((pmU_n _ _ (by omega)).trans ((pmU_n _ _ (by omega)).trans hR.2.2.2.2.2.2.2.2.2.2.1)), (congrFun enk2 (m + 11)).trans ((pmU_n _ _ (by omega)).trans ((pmU_n _ _ (by omega)).trans hR.2.2.2.2.2.2.2.2.2.2.2.1)), (congrFun enk2 (m + 12)).trans ((pmU_n _ _ (by omega)).trans ((pmU_n _ _ (by omega)).trans hR.2.2.2.2.2.2.2.2.2.2.2.2.1)), (congrFun enk2 (m + 13)).trans ((pmU_n _ _ (by omega)).trans ((pmU_n _ _ (by omega)).trans hR.2.2.2.2.2.2.2.2.2.2.2.2.2.1)), (congrFun enk2 (m + 14)).trans ((pmU_n _ _ (by omega)).trans ((pmU_n _ _ (by omega)).trans hR.2.2.2.2.2.2.2.2.2.2.2.2.2.2.1)), (congrFun enk2 (m + 15)).trans ((pmU_n _ _ (by omega)).trans ((pmU_n _ _ (by omega)).trans hR.2.2.2.2.2.2.2.2.2.2.2.2.2.2.2.1)), (congrFun enk2 (m + 16)).trans ((pmU_n _ _ (by omega)).trans ((pmU_n _ _ (by omega)).trans hR.2.2.2.2.2.2.2.2.2.2.2.2.2.2.2.2))⟩
          have sk2 := hs.trans gsk2
          refine go_iret dRef_unknown_101 rfl rfl ?_ (Nat.le_of_ble_eq_true rfl) (Nat.le_of_ble_eq_true rfl)
          exact retR_no (by rw [unF, if_neg t1, if_neg (fun q => q ⟨Int32.not_lt.mp c2, c3⟩), nI_clamp (n := k5) (by omega), if_pos (Or.inl c4)]) hRk2 hr rfl sk2
        · refine go_iload_n dRef_unknown_45 rfl ?_
          refine go_aload_n dRef_unknown_46 rfl ?_
          refine go_getf dRef_unknown_47 qf_Ref_40 (pmU_s _ _ _) rfl ?_
          refine go_iload_n dRef_unknown_50 rfl ?_
          refine go_iald dRef_unknown_51 ((pmU_n _ _ (by omega)).trans hR.2.2.2.2.2.2.2.2.2.2.2.1) (by exact vp_in_nI (by omega) (by omega)) (congrArg _ (nI_clamp (by omega))) ?_
          refine go_top (y := nI (α.2.2.2.1.2.2.2.2.2.2.1 k5)) (by exact hz5.1) ?_
          refine go_icmp_lt (tgt := 59) dRef_unknown_52 (fun c5 => ?_) (fun c5 => ?_)
          · refine go_aload_n dRef_unknown_59 rfl ?_
            refine go_getf dRef_unknown_60 qf_Ref_59 (pmU_s _ _ _) rfl ?_
            refine go_putf dRef_unknown_63 qf_Ref_59 pw_8_0 (pmU_s _ _ _) rfl rfl ?_
            refine go_aload_n dRef_unknown_66 rfl ?_
            refine go_getf dRef_unknown_67 qf_Ref_59 (pmU_s _ _ _) rfl ?_
            refine go_if_le (tgt := 77) dRef_unknown_70 (fun _ => ?_) (fun cc => absurd (by decide) cc)
            refine go_iload_n dRef_unknown_77 rfl ?_
            refine go_if_ge (tgt := 90) dRef_unknown_78 (fun c6 => ?_) (fun c6 => ?_)
            · obtain ⟨i5, hi5, rfl⟩ := has_ex (by omega) ⟨c6, c5⟩
              refine go_aload_n dRef_unknown_90 rfl ?_
              refine go_getf dRef_unknown_91 qf_Ref_43 (pmU_s _ _ _) rfl ?_
              refine go_bipush (v := 40) dRef_unknown_94 (by decide) ?_
              refine go_iload_n dRef_unknown_96 rfl ?_
              refine go_imul dRef_unknown_97 ?_
              refine go_iload_n dRef_unknown_98 rfl ?_
              refine go_iadd dRef_unknown_99 ?_
              refine go_top (y := nI (40 * k5 + i5)) (by rw [show (40 : Int32) = nI 40 from rfl, pk_mul, nI_add]) ?_
              refine go_iald dRef_unknown_100 ((pmU_n _ _ (by omega)).trans ((pmU_n _ _ (by omega)).trans hR.2.2.2.2.2.2.2.2.2.2.2.2.1)) (by exact vp_in_nI (by omega) (by omega)) (congrArg _ (nI_clamp (by omega))) ?_
              refine go_nm (fun hnk3 enk3 => ?_)
              have gsk3 : Sm h hnk3 m 17 := by rw [enk3]; exact (Sm.put' (Sm.put' (Sm.refl _ _ _) _ (by omega) (by omega)) _ (by omega) (by omega))
              have hRk3 : RfA hnk3 m (upd g 0 0) (A) := ⟨(congrFun enk3 m).trans (pmU_s _ _ _), (congrFun enk3 (m + 1)).trans ((pmU_n _ _ (by omega)).trans ((pmU_n _ _ (by omega)).trans hR.2.1)), (congrFun enk3 (m + 2)).trans ((pmU_n _ _ (by omega)).trans ((pmU_n _ _ (by omega)).trans hR.2.2.1)), (congrFun enk3 (m + 3)).trans ((pmU_n _ _ (by omega)).trans ((pmU_n _ _ (by omega)).trans hR.2.2.2.1)), (congrFun enk3 (m + 4)).trans ((pmU_n _ _ (by omega)).trans ((pmU_n _ _ (by omega)).trans hR.2.2.2.2.1)), (congrFun enk3 (m + 5)).trans ((pmU_n _ _ (by omega)).trans ((pmU_n _ _ (by omega)).trans hR.2.2.2.2.2.1)), (congrFun enk3 (m + 6)).trans ((pmU_n _ _ (by omega)).trans ((pmU_n _ _ (by omega)).trans hR.2.2.2.2.2.2.1)), (congrFun enk3 (m + 7)).trans ((pmU_n _ _ (by omega)).trans ((pmU_n _ _ (by omega)).trans hR.2.2.2.2.2.2.2.1)), (congrFun enk3 (m + 8)).trans ((pmU_n _ _ (by omega)).trans ((pmU_n _ _ (by omega)).trans hR.2.2.2.2.2.2.2.2.1)), (congrFun enk3 (m + 9)).trans ((pmU_n _ _ (by omega)).trans ((pmU_n _ _ (by omega)).trans hR.2.2.2.2.2.2.2.2.2.1)), (congrFun enk3 (m + 10)).trans ((pmU_n _ _ (by omega)).trans ((pmU_n _ _ (by omega)).trans hR.2.2.2.2.2.2.2.2.2.2.1)), (congrFun enk3 (m + 11)).trans ((pmU_n _ _ (by omega)).trans ((pmU_n _ _ (by omega)).trans hR.2.2.2.2.2.2.2.2.2.2.2.1)), (congrFun enk3 (m + 12)).trans ((pmU_n _ _ (by omega)).trans ((pmU_n _ _ (by omega)).trans hR.2.2.2.2.2.2.2.2.2.2.2.2.1)), (congrFun enk3 (m + 13)).trans ((pmU_n _ _ (by omega)).trans ((pmU_n _ _ (by omega)).trans hR.2.2.2.2.2.2.2.2.2.2.2.2.2.1)), (congrFun enk3 (m + 14)).trans ((pmU_n _ _ (by omega)).trans ((pmU_n _ _ (by omega)).trans hR.2.2.2.2.2.2.2.2.2.2.2.2.2.2.1)), (congrFun enk3 (m + 15)).trans ((pmU_n _ _ (by omega)).trans ((pmU_n _ _ (by omega)).trans hR.2.2.2.2.2.2.2.2.2.2.2.2.2.2.2.1)), (congrFun enk3 (m + 16)).trans ((pmU_n _ _ (by omega)).trans ((pmU_n _ _ (by omega)).trans hR.2.2.2.2.2.2.2.2.2.2.2.2.2.2.2.2))⟩
              have sk3 := hs.trans gsk3
              refine go_iret dRef_unknown_101 rfl rfl ?_ (Nat.le_of_ble_eq_true rfl) (Nat.le_of_ble_eq_true rfl)
              exact retR_ok (β := α) (by rw [unF, if_neg t1, if_neg (fun q => q ⟨Int32.not_lt.mp c2, c3⟩), nI_clamp (n := k5) (by omega), if_neg (fun q => q.elim c4 (fun q => q c5)), if_neg (fun q => absurd c6 (by rw [q]; decide)), nI_clamp (n := i5) (by omega), hE.2.2 k5 hk5 i5 hi5]) hRk3 hr rfl sk3
            · refine go_aload_n dRef_unknown_81 rfl ?_
              refine go_getf dRef_unknown_82 qf_Ref_37 (pmU_s _ _ _) rfl ?_
              refine go_iload_n dRef_unknown_85 rfl ?_
              refine go_iald dRef_unknown_86 ((pmU_n _ _ (by omega)).trans ((pmU_n _ _ (by omega)).trans hR.2.2.2.2.2.2.2.2.2.2.1)) (by exact vp_in_nI (by omega) (by omega)) (congrArg _ (nI_clamp (by omega))) ?_
              refine go_goto (tgt := 101) dRef_unknown_87 ?_
              refine go_nm (fun hnk4 enk4 => ?_)
              have gsk4 : Sm h hnk4 m 17 := by rw [enk4]; exact (Sm.put' (Sm.put' (Sm.refl _ _ _) _ (by omega) (by omega)) _ (by omega) (by omega))
              have hRk4 : RfA hnk4 m (upd g 0 0) (A) := ⟨(congrFun enk4 m).trans (pmU_s _ _ _), (congrFun enk4 (m + 1)).trans ((pmU_n _ _ (by omega)).trans ((pmU_n _ _ (by omega)).trans hR.2.1)), (congrFun enk4 (m + 2)).trans ((pmU_n _ _ (by omega)).trans ((pmU_n _ _ (by omega)).trans hR.2.2.1)), (congrFun enk4 (m + 3)).trans ((pmU_n _ _ (by omega)).trans ((pmU_n _ _ (by omega)).trans hR.2.2.2.1)), (congrFun enk4 (m + 4)).trans ((pmU_n _ _ (by omega)).trans ((pmU_n _ _ (by omega)).trans hR.2.2.2.2.1)), (congrFun enk4 (m + 5)).trans ((pmU_n _ _ (by omega)).trans ((pmU_n _ _ (by omega)).trans hR.2.2.2.2.2.1)), (congrFun enk4 (m + 6)).trans ((pmU_n _ _ (by omega)).trans ((pmU_n _ _ (by omega)).trans hR.2.2.2.2.2.2.1)), (congrFun enk4 (m + 7)).trans ((pmU_n _ _ (by omega)).trans ((pmU_n _ _ (by omega)).trans hR.2.2.2.2.2.2.2.1)), (congrFun enk4 (m + 8)).trans ((pmU_n _ _ (by omega)).trans ((pmU_n _ _ (by omega)).trans hR.2.2.2.2.2.2.2.2.1)), (congrFun enk4 (m + 9)).trans ((pmU_n _ _ (by omega)).trans ((pmU_n _ _ (by omega)).trans hR.2.2.2.2.2.2.2.2.2.1)), (congrFun enk4 (m + 10)).trans ((pmU_n _ _ (by omega)).trans ((pmU_n _ _ (by omega)).trans hR.2.2.2.2.2.2.2.2.2.2.1)), (congrFun enk4 (m + 11)).trans ((pmU_n _ _ (by omega)).trans ((pmU_n _ _ (by omega)).trans hR.2.2.2.2.2.2.2.2.2.2.2.1)), (congrFun enk4 (m + 12)).trans ((pmU_n _ _ (by omega)).trans ((pmU_n _ _ (by omega)).trans hR.2.2.2.2.2.2.2.2.2.2.2.2.1)), (congrFun enk4 (m + 13)).trans ((pmU_n _ _ (by omega)).trans ((pmU_n _ _ (by omega)).trans hR.2.2.2.2.2.2.2.2.2.2.2.2.2.1)), (congrFun enk4 (m + 14)).trans ((pmU_n _ _ (by omega)).trans ((pmU_n _ _ (by omega)).trans hR.2.2.2.2.2.2.2.2.2.2.2.2.2.2.1)), (congrFun enk4 (m + 15)).trans ((pmU_n _ _ (by omega)).trans ((pmU_n _ _ (by omega)).trans hR.2.2.2.2.2.2.2.2.2.2.2.2.2.2.2.1)), (congrFun enk4 (m + 16)).trans ((pmU_n _ _ (by omega)).trans ((pmU_n _ _ (by omega)).trans hR.2.2.2.2.2.2.2.2.2.2.2.2.2.2.2.2))⟩
              have sk4 := hs.trans gsk4
              refine go_iret dRef_unknown_101 rfl rfl ?_ (Nat.le_of_ble_eq_true rfl) (Nat.le_of_ble_eq_true rfl)
              exact retR_ok (β := α) (by rw [unF, if_neg t1, if_neg (fun q => q ⟨Int32.not_lt.mp c2, c3⟩), nI_clamp (n := k5) (by omega), if_neg (fun q => q.elim c4 (fun q => q c5)), if_pos (m1_of c4 c6), hE.1 k5 hk5]) hRk4 hr rfl sk4
          · refine go_iconst (v := 2) dRef_unknown_55 (by decide) ?_
            refine go_goto (tgt := 63) dRef_unknown_56 ?_
            refine go_putf dRef_unknown_63 qf_Ref_59 pw_8_0 (pmU_s _ _ _) rfl rfl ?_
            refine go_aload_n dRef_unknown_66 rfl ?_
            refine go_getf dRef_unknown_67 qf_Ref_59 (pmU_s _ _ _) rfl ?_
            refine go_if_le (tgt := 77) dRef_unknown_70 (fun cc => absurd cc (by decide)) (fun _ => ?_)
            refine go_iconst (v := 0) dRef_unknown_73 (by decide) ?_
            refine go_goto (tgt := 101) dRef_unknown_74 ?_
            refine go_nm (fun hnk5 enk5 => ?_)
            have gsk5 : Sm h hnk5 m 17 := by rw [enk5]; exact (Sm.put' (Sm.put' (Sm.refl _ _ _) _ (by omega) (by omega)) _ (by omega) (by omega))
            have hRk5 : RfA hnk5 m (upd g 0 2) (A) := ⟨(congrFun enk5 m).trans (pmU_s _ _ _), (congrFun enk5 (m + 1)).trans ((pmU_n _ _ (by omega)).trans ((pmU_n _ _ (by omega)).trans hR.2.1)), (congrFun enk5 (m + 2)).trans ((pmU_n _ _ (by omega)).trans ((pmU_n _ _ (by omega)).trans hR.2.2.1)), (congrFun enk5 (m + 3)).trans ((pmU_n _ _ (by omega)).trans ((pmU_n _ _ (by omega)).trans hR.2.2.2.1)), (congrFun enk5 (m + 4)).trans ((pmU_n _ _ (by omega)).trans ((pmU_n _ _ (by omega)).trans hR.2.2.2.2.1)), (congrFun enk5 (m + 5)).trans ((pmU_n _ _ (by omega)).trans ((pmU_n _ _ (by omega)).trans hR.2.2.2.2.2.1)), (congrFun enk5 (m + 6)).trans ((pmU_n _ _ (by omega)).trans ((pmU_n _ _ (by omega)).trans hR.2.2.2.2.2.2.1)), (congrFun enk5 (m + 7)).trans ((pmU_n _ _ (by omega)).trans ((pmU_n _ _ (by omega)).trans hR.2.2.2.2.2.2.2.1)), (congrFun enk5 (m + 8)).trans ((pmU_n _ _ (by omega)).trans ((pmU_n _ _ (by omega)).trans hR.2.2.2.2.2.2.2.2.1)), (congrFun enk5 (m + 9)).trans ((pmU_n _ _ (by omega)).trans ((pmU_n _ _ (by omega)).trans hR.2.2.2.2.2.2.2.2.2.1)), (congrFun enk5 (m + 10)).trans ((pmU_n _ _ (by omega)).trans ((pmU_n _ _ (by omega)).trans hR.2.2.2.2.2.2.2.2.2.2.1)), (congrFun enk5 (m + 11)).trans ((pmU_n _ _ (by omega)).trans ((pmU_n _ _ (by omega)).trans hR.2.2.2.2.2.2.2.2.2.2.2.1)), (congrFun enk5 (m + 12)).trans ((pmU_n _ _ (by omega)).trans ((pmU_n _ _ (by omega)).trans hR.2.2.2.2.2.2.2.2.2.2.2.2.1)), (congrFun enk5 (m + 13)).trans ((pmU_n _ _ (by omega)).trans ((pmU_n _ _ (by omega)).trans hR.2.2.2.2.2.2.2.2.2.2.2.2.2.1)), (congrFun enk5 (m + 14)).trans ((pmU_n _ _ (by omega)).trans ((pmU_n _ _ (by omega)).trans hR.2.2.2.2.2.2.2.2.2.2.2.2.2.2.1)), (congrFun enk5 (m + 15)).trans ((pmU_n _ _ (by omega)).trans ((pmU_n _ _ (by omega)).trans hR.2.2.2.2.2.2.2.2.2.2.2.2.2.2.2.1)), (congrFun enk5 (m + 16)).trans ((pmU_n _ _ (by omega)).trans ((pmU_n _ _ (by omega)).trans hR.2.2.2.2.2.2.2.2.2.2.2.2.2.2.2.2))⟩
            have sk5 := hs.trans gsk5
            refine go_iret dRef_unknown_101 rfl rfl ?_ (Nat.le_of_ble_eq_true rfl) (Nat.le_of_ble_eq_true rfl)
            exact retR_no (by rw [unF, if_neg t1, if_neg (fun q => q ⟨Int32.not_lt.mp c2, c3⟩), nI_clamp (n := k5) (by omega), if_pos (Or.inr c5)]) hRk5 hr rfl sk5
      · refine go_iconst (v := 2) dRef_unknown_24 (by decide) ?_
        refine go_goto (tgt := 29) dRef_unknown_25 ?_
        refine go_putf dRef_unknown_29 qf_Ref_59 pw_8_0 hR.1 rfl rfl ?_
        refine go_aload_n dRef_unknown_32 rfl ?_
        refine go_aload_n dRef_unknown_33 rfl ?_
        refine go_getf dRef_unknown_34 qf_Ref_59 (pmU_s _ _ _) rfl ?_
        refine go_if_ne (tgt := 59) dRef_unknown_37 (fun _ => ?_) (fun cc => absurd cc (by decide))
        refine go_aload_n dRef_unknown_59 rfl ?_
        refine go_getf dRef_unknown_60 qf_Ref_59 (pmU_s _ _ _) rfl ?_
        refine go_putf dRef_unknown_63 qf_Ref_59 pw_8_0 (pmU_s _ _ _) rfl rfl ?_
        refine go_aload_n dRef_unknown_66 rfl ?_
        refine go_getf dRef_unknown_67 qf_Ref_59 (pmU_s _ _ _) rfl ?_
        refine go_if_le (tgt := 77) dRef_unknown_70 (fun cc => absurd cc (by decide)) (fun _ => ?_)
        refine go_iconst (v := 0) dRef_unknown_73 (by decide) ?_
        refine go_goto (tgt := 101) dRef_unknown_74 ?_
        refine go_nm (fun hnk6 enk6 => ?_)
        have gsk6 : Sm h hnk6 m 17 := by rw [enk6]; exact (Sm.put' (Sm.put' (Sm.refl _ _ _) _ (by omega) (by omega)) _ (by omega) (by omega))
        have hRk6 : RfA hnk6 m (upd g 0 2) (A) := ⟨(congrFun enk6 m).trans (pmU_s _ _ _), (congrFun enk6 (m + 1)).trans ((pmU_n _ _ (by omega)).trans ((pmU_n _ _ (by omega)).trans hR.2.1)), (congrFun enk6 (m + 2)).trans ((pmU_n _ _ (by omega)).trans ((pmU_n _ _ (by omega)).trans hR.2.2.1)), (congrFun enk6 (m + 3)).trans ((pmU_n _ _ (by omega)).trans ((pmU_n _ _ (by omega)).trans hR.2.2.2.1)), (congrFun enk6 (m + 4)).trans ((pmU_n _ _ (by omega)).trans ((pmU_n _ _ (by omega)).trans hR.2.2.2.2.1)), (congrFun enk6 (m + 5)).trans ((pmU_n _ _ (by omega)).trans ((pmU_n _ _ (by omega)).trans hR.2.2.2.2.2.1)), (congrFun enk6 (m + 6)).trans ((pmU_n _ _ (by omega)).trans ((pmU_n _ _ (by omega)).trans hR.2.2.2.2.2.2.1)), (congrFun enk6 (m + 7)).trans ((pmU_n _ _ (by omega)).trans ((pmU_n _ _ (by omega)).trans hR.2.2.2.2.2.2.2.1)), (congrFun enk6 (m + 8)).trans ((pmU_n _ _ (by omega)).trans ((pmU_n _ _ (by omega)).trans hR.2.2.2.2.2.2.2.2.1)), (congrFun enk6 (m + 9)).trans ((pmU_n _ _ (by omega)).trans ((pmU_n _ _ (by omega)).trans hR.2.2.2.2.2.2.2.2.2.1)), (congrFun enk6 (m + 10)).trans ((pmU_n _ _ (by omega)).trans ((pmU_n _ _ (by omega)).trans hR.2.2.2.2.2.2.2.2.2.2.1)), (congrFun enk6 (m + 11)).trans ((pmU_n _ _ (by omega)).trans ((pmU_n _ _ (by omega)).trans hR.2.2.2.2.2.2.2.2.2.2.2.1)), (congrFun enk6 (m + 12)).trans ((pmU_n _ _ (by omega)).trans ((pmU_n _ _ (by omega)).trans hR.2.2.2.2.2.2.2.2.2.2.2.2.1)), (congrFun enk6 (m + 13)).trans ((pmU_n _ _ (by omega)).trans ((pmU_n _ _ (by omega)).trans hR.2.2.2.2.2.2.2.2.2.2.2.2.2.1)), (congrFun enk6 (m + 14)).trans ((pmU_n _ _ (by omega)).trans ((pmU_n _ _ (by omega)).trans hR.2.2.2.2.2.2.2.2.2.2.2.2.2.2.1)), (congrFun enk6 (m + 15)).trans ((pmU_n _ _ (by omega)).trans ((pmU_n _ _ (by omega)).trans hR.2.2.2.2.2.2.2.2.2.2.2.2.2.2.2.1)), (congrFun enk6 (m + 16)).trans ((pmU_n _ _ (by omega)).trans ((pmU_n _ _ (by omega)).trans hR.2.2.2.2.2.2.2.2.2.2.2.2.2.2.2.2))⟩
        have sk6 := hs.trans gsk6
        refine go_iret dRef_unknown_101 rfl rfl ?_ (Nat.le_of_ble_eq_true rfl) (Nat.le_of_ble_eq_true rfl)
        exact retR_no (by rw [unF, if_neg t1, if_pos (fun q => c3 q.2)]) hRk6 hr rfl sk6
  · refine go_iconst (v := 1) dRef_unknown_8 (by decide) ?_
    refine go_goto (tgt := 29) dRef_unknown_9 ?_
    refine go_putf dRef_unknown_29 qf_Ref_59 pw_8_0 hR.1 rfl rfl ?_
    refine go_aload_n dRef_unknown_32 rfl ?_
    refine go_aload_n dRef_unknown_33 rfl ?_
    refine go_getf dRef_unknown_34 qf_Ref_59 (pmU_s _ _ _) rfl ?_
    refine go_if_ne (tgt := 59) dRef_unknown_37 (fun _ => ?_) (fun cc => absurd cc (by decide))
    refine go_aload_n dRef_unknown_59 rfl ?_
    refine go_getf dRef_unknown_60 qf_Ref_59 (pmU_s _ _ _) rfl ?_
    refine go_putf dRef_unknown_63 qf_Ref_59 pw_8_0 (pmU_s _ _ _) rfl rfl ?_
    refine go_aload_n dRef_unknown_66 rfl ?_
    refine go_getf dRef_unknown_67 qf_Ref_59 (pmU_s _ _ _) rfl ?_
    refine go_if_le (tgt := 77) dRef_unknown_70 (fun cc => absurd cc (by decide)) (fun _ => ?_)
    refine go_iconst (v := 0) dRef_unknown_73 (by decide) ?_
    refine go_goto (tgt := 101) dRef_unknown_74 ?_
    refine go_nm (fun hnk7 enk7 => ?_)
    have gsk7 : Sm h hnk7 m 17 := by rw [enk7]; exact (Sm.put' (Sm.put' (Sm.refl _ _ _) _ (by omega) (by omega)) _ (by omega) (by omega))
    have hRk7 : RfA hnk7 m (upd g 0 1) (A) := ⟨(congrFun enk7 m).trans (pmU_s _ _ _), (congrFun enk7 (m + 1)).trans ((pmU_n _ _ (by omega)).trans ((pmU_n _ _ (by omega)).trans hR.2.1)), (congrFun enk7 (m + 2)).trans ((pmU_n _ _ (by omega)).trans ((pmU_n _ _ (by omega)).trans hR.2.2.1)), (congrFun enk7 (m + 3)).trans ((pmU_n _ _ (by omega)).trans ((pmU_n _ _ (by omega)).trans hR.2.2.2.1)), (congrFun enk7 (m + 4)).trans ((pmU_n _ _ (by omega)).trans ((pmU_n _ _ (by omega)).trans hR.2.2.2.2.1)), (congrFun enk7 (m + 5)).trans ((pmU_n _ _ (by omega)).trans ((pmU_n _ _ (by omega)).trans hR.2.2.2.2.2.1)), (congrFun enk7 (m + 6)).trans ((pmU_n _ _ (by omega)).trans ((pmU_n _ _ (by omega)).trans hR.2.2.2.2.2.2.1)), (congrFun enk7 (m + 7)).trans ((pmU_n _ _ (by omega)).trans ((pmU_n _ _ (by omega)).trans hR.2.2.2.2.2.2.2.1)), (congrFun enk7 (m + 8)).trans ((pmU_n _ _ (by omega)).trans ((pmU_n _ _ (by omega)).trans hR.2.2.2.2.2.2.2.2.1)), (congrFun enk7 (m + 9)).trans ((pmU_n _ _ (by omega)).trans ((pmU_n _ _ (by omega)).trans hR.2.2.2.2.2.2.2.2.2.1)), (congrFun enk7 (m + 10)).trans ((pmU_n _ _ (by omega)).trans ((pmU_n _ _ (by omega)).trans hR.2.2.2.2.2.2.2.2.2.2.1)), (congrFun enk7 (m + 11)).trans ((pmU_n _ _ (by omega)).trans ((pmU_n _ _ (by omega)).trans hR.2.2.2.2.2.2.2.2.2.2.2.1)), (congrFun enk7 (m + 12)).trans ((pmU_n _ _ (by omega)).trans ((pmU_n _ _ (by omega)).trans hR.2.2.2.2.2.2.2.2.2.2.2.2.1)), (congrFun enk7 (m + 13)).trans ((pmU_n _ _ (by omega)).trans ((pmU_n _ _ (by omega)).trans hR.2.2.2.2.2.2.2.2.2.2.2.2.2.1)), (congrFun enk7 (m + 14)).trans ((pmU_n _ _ (by omega)).trans ((pmU_n _ _ (by omega)).trans hR.2.2.2.2.2.2.2.2.2.2.2.2.2.2.1)), (congrFun enk7 (m + 15)).trans ((pmU_n _ _ (by omega)).trans ((pmU_n _ _ (by omega)).trans hR.2.2.2.2.2.2.2.2.2.2.2.2.2.2.2.1)), (congrFun enk7 (m + 16)).trans ((pmU_n _ _ (by omega)).trans ((pmU_n _ _ (by omega)).trans hR.2.2.2.2.2.2.2.2.2.2.2.2.2.2.2.2))⟩
    have sk7 := hs.trans gsk7
    refine go_iret dRef_unknown_101 rfl rfl ?_ (Nat.le_of_ble_eq_true rfl) (Nat.le_of_ble_eq_true rfl)
    exact retR_no (by rw [unF, if_pos (Decidable.not_not.mp (ht2.mp c1))]) hRk7 hr rfl sk7
set_option maxHeartbeats 4000000 in
theorem l_Ref_take1 {E : pmEv} {h0 : pmH} {z : Option Nat} {m : Nat} {g : Nat → Int32} {A : Nat → Nat → Int32} {Q : pmA → pmS → Prop} : ∀ (n : Nat) (i : Nat) (f0 : Nat → Int32) (h : pmH) (d : Bool), i + n = 576 → RfA h m g (uA A 0 f0) → (∀ k, k < i → f0 k = (A 6) k) → Sm h0 h m 17 → (∀ hx dx (f0' : Nat → Int32), RfA hx m g (uA A 0 f0') → (∀ k, k < 576 → f0' k = (A 6) k) → Sm h0 hx m 17 → Go E (mRef_take, h0, 0, 0) 104 [some (.ref m), some (.int (nI (576)))] [] (hx, z, dx) 0 0 (Q)) → Go E (mRef_take, h0, 0, 0) 79 [some (.ref m), some (.int (nI (i)))] [] (h, z, d) 0 0 (Q) := by
  intro n
  induction n with
  | zero =>
    intro i f0 h d hi hR e0 hs hk
    refine go_iload_n dRef_take_79 rfl ?_
    refine go_sipush (v := 576) dRef_take_80 (by decide) ?_
    refine go_icmp_ge (tgt := 104) dRef_take_83 (fun c1 => ?_) (fun c1 => ?_)
    · obtain rfl : i = 576 := by omega
      exact hk h d f0 hR e0 hs
    · exact absurd (nI_le (a := 576) (b := i) (by omega) (by omega)) c1
  | succ n ih =>
    intro i f0 h d hi hR e0 hs hk
    refine go_iload_n dRef_take_79 rfl ?_
    refine go_sipush (v := 576) dRef_take_80 (by decide) ?_
    refine go_icmp_ge (tgt := 104) dRef_take_83 (fun c1 => ?_) (fun c1 => ?_)
    · exact absurd c1 (nI_ge (a := i) (b := 576) (by omega) (by omega))
    · refine go_aload_n dRef_take_86 rfl ?_
      refine go_getf dRef_take_87 qf_Ref_7 hR.1 rfl ?_
      refine go_iload_n dRef_take_90 rfl ?_
      refine go_aload_n dRef_take_91 rfl ?_
      refine go_getf dRef_take_92 qf_Ref_28 hR.1 rfl ?_
      refine go_iload_n dRef_take_95 rfl ?_
      refine go_iald dRef_take_96 hR.2.2.2.2.2.2.2.1 (by exact vp_in_nI (by omega) (by omega)) (congrArg _ (nI_clamp (by omega))) ?_
      refine go_iast dRef_take_97 hR.2.1 (by exact vp_in_nI (by omega) (by omega)) (nI_clamp (by omega)) ?_
      refine go_iinc dRef_take_98 rfl (congrArg (_ + ·) lit1) ?_
      refine go_goto (tgt := 79) dRef_take_101 ?_
      refine go_nm (fun hnk1 enk1 => ?_)
      have gsk1 : Sm h hnk1 m 17 := by rw [enk1]; exact (Sm.put' (Sm.refl _ _ _) _ (by omega) (by omega))
      have hRk1 : RfA hnk1 m (g) ((uA A 0 (upd f0 i ((A 6) i)))) := ⟨(congrFun enk1 m).trans ((pmU_n _ _ (by omega)).trans hR.1), (congrFun enk1 (m + 1)).trans (pmU_s _ _ _), (congrFun enk1 (m + 2)).trans ((pmU_n _ _ (by omega)).trans hR.2.2.1), (congrFun enk1 (m + 3)).trans ((pmU_n _ _ (by omega)).trans hR.2.2.2.1), (congrFun enk1 (m + 4)).trans ((pmU_n _ _ (by omega)).trans hR.2.2.2.2.1), (congrFun enk1 (m + 5)).trans ((pmU_n _ _ (by omega)).trans hR.2.2.2.2.2.1), (congrFun enk1 (m + 6)).trans ((pmU_n _ _ (by omega)).trans hR.2.2.2.2.2.2.1), (congrFun enk1 (m + 7)).trans ((pmU_n _ _ (by omega)).trans hR.2.2.2.2.2.2.2.1), (congrFun enk1 (m + 8)).trans ((pmU_n _ _ (by omega)).trans hR.2.2.2.2.2.2.2.2.1), (congrFun enk1 (m + 9)).trans ((pmU_n _ _ (by omega)).trans hR.2.2.2.2.2.2.2.2.2.1), (congrFun enk1 (m + 10)).trans ((pmU_n _ _ (by omega)).trans hR.2.2.2.2.2.2.2.2.2.2.1), (congrFun enk1 (m + 11)).trans ((pmU_n _ _ (by omega)).trans hR.2.2.2.2.2.2.2.2.2.2.2.1), (congrFun enk1 (m + 12)).trans ((pmU_n _ _ (by omega)).trans hR.2.2.2.2.2.2.2.2.2.2.2.2.1), (congrFun enk1 (m + 13)).trans ((pmU_n _ _ (by omega)).trans hR.2.2.2.2.2.2.2.2.2.2.2.2.2.1), (congrFun enk1 (m + 14)).trans ((pmU_n _ _ (by omega)).trans hR.2.2.2.2.2.2.2.2.2.2.2.2.2.2.1), (congrFun enk1 (m + 15)).trans ((pmU_n _ _ (by omega)).trans hR.2.2.2.2.2.2.2.2.2.2.2.2.2.2.2.1), (congrFun enk1 (m + 16)).trans ((pmU_n _ _ (by omega)).trans hR.2.2.2.2.2.2.2.2.2.2.2.2.2.2.2.2)⟩
      have sk1 := hs.trans gsk1
      exact go_at (ih (i + 1) (upd f0 i ((A 6) i)) _ _ (by omega) hRk1 (upS1 e0) sk1 hk) rfl (by rw [nI_succ i]; rfl) rfl rfl
set_option maxHeartbeats 4000000 in
theorem l_Ref_take2 {E : pmEv} {h0 : pmH} {z : Option Nat} {m : Nat} {g : Nat → Int32} {A : Nat → Nat → Int32} {Q : pmA → pmS → Prop} : ∀ (n : Nat) (i : Nat) (f1 : Nat → Int32) (h : pmH) (d : Bool), i + n = 256 → RfA h m g (uA A 1 f1) → (∀ k, k < i → f1 k = (A 7) k) → Sm h0 h m 17 → (∀ hx dx (f1' : Nat → Int32), RfA hx m g (uA A 1 f1') → (∀ k, k < 256 → f1' k = (A 7) k) → Sm h0 hx m 17 → Go E (mRef_take, h0, 0, 0) 131 [some (.ref m), some (.int (nI (256)))] [] (hx, z, dx) 0 0 (Q)) → Go E (mRef_take, h0, 0, 0) 106 [some (.ref m), some (.int (nI (i)))] [] (h, z, d) 0 0 (Q) := by
  intro n
  induction n with
  | zero =>
    intro i f1 h d hi hR e1 hs hk
    refine go_iload_n dRef_take_106 rfl ?_
    refine go_sipush (v := 256) dRef_take_107 (by decide) ?_
    refine go_icmp_ge (tgt := 131) dRef_take_110 (fun c1 => ?_) (fun c1 => ?_)
    · obtain rfl : i = 256 := by omega
      exact hk h d f1 hR e1 hs
    · exact absurd (nI_le (a := 256) (b := i) (by omega) (by omega)) c1
  | succ n ih =>
    intro i f1 h d hi hR e1 hs hk
    refine go_iload_n dRef_take_106 rfl ?_
    refine go_sipush (v := 256) dRef_take_107 (by decide) ?_
    refine go_icmp_ge (tgt := 131) dRef_take_110 (fun c1 => ?_) (fun c1 => ?_)
    · exact absurd c1 (nI_ge (a := i) (b := 256) (by omega) (by omega))
    · refine go_aload_n dRef_take_113 rfl ?_
      refine go_getf dRef_take_114 qf_Ref_13 hR.1 rfl ?_
      refine go_iload_n dRef_take_117 rfl ?_
      refine go_aload_n dRef_take_118 rfl ?_
      refine go_getf dRef_take_119 qf_Ref_31 hR.1 rfl ?_
      refine go_iload_n dRef_take_122 rfl ?_
      refine go_iald dRef_take_123 hR.2.2.2.2.2.2.2.2.1 (by exact vp_in_nI (by omega) (by omega)) (congrArg _ (nI_clamp (by omega))) ?_
      refine go_iast dRef_take_124 hR.2.2.1 (by exact vp_in_nI (by omega) (by omega)) (nI_clamp (by omega)) ?_
      refine go_iinc dRef_take_125 rfl (congrArg (_ + ·) lit1) ?_
      refine go_goto (tgt := 106) dRef_take_128 ?_
      refine go_nm (fun hnk1 enk1 => ?_)
      have gsk1 : Sm h hnk1 m 17 := by rw [enk1]; exact (Sm.put' (Sm.refl _ _ _) _ (by omega) (by omega))
      have hRk1 : RfA hnk1 m (g) ((uA A 1 (upd f1 i ((A 7) i)))) := ⟨(congrFun enk1 m).trans ((pmU_n _ _ (by omega)).trans hR.1), (congrFun enk1 (m + 1)).trans ((pmU_n _ _ (by omega)).trans hR.2.1), (congrFun enk1 (m + 2)).trans (pmU_s _ _ _), (congrFun enk1 (m + 3)).trans ((pmU_n _ _ (by omega)).trans hR.2.2.2.1), (congrFun enk1 (m + 4)).trans ((pmU_n _ _ (by omega)).trans hR.2.2.2.2.1), (congrFun enk1 (m + 5)).trans ((pmU_n _ _ (by omega)).trans hR.2.2.2.2.2.1), (congrFun enk1 (m + 6)).trans ((pmU_n _ _ (by omega)).trans hR.2.2.2.2.2.2.1), (congrFun enk1 (m + 7)).trans ((pmU_n _ _ (by omega)).trans hR.2.2.2.2.2.2.2.1), (congrFun enk1 (m + 8)).trans ((pmU_n _ _ (by omega)).trans hR.2.2.2.2.2.2.2.2.1), (congrFun enk1 (m + 9)).trans ((pmU_n _ _ (by omega)).trans hR.2.2.2.2.2.2.2.2.2.1), (congrFun enk1 (m + 10)).trans ((pmU_n _ _ (by omega)).trans hR.2.2.2.2.2.2.2.2.2.2.1), (congrFun enk1 (m + 11)).trans ((pmU_n _ _ (by omega)).trans hR.2.2.2.2.2.2.2.2.2.2.2.1), (congrFun enk1 (m + 12)).trans ((pmU_n _ _ (by omega)).trans hR.2.2.2.2.2.2.2.2.2.2.2.2.1), (congrFun enk1 (m + 13)).trans ((pmU_n _ _ (by omega)).trans hR.2.2.2.2.2.2.2.2.2.2.2.2.2.1), (congrFun enk1 (m + 14)).trans ((pmU_n _ _ (by omega)).trans hR.2.2.2.2.2.2.2.2.2.2.2.2.2.2.1), (congrFun enk1 (m + 15)).trans ((pmU_n _ _ (by omega)).trans hR.2.2.2.2.2.2.2.2.2.2.2.2.2.2.2.1), (congrFun enk1 (m + 16)).trans ((pmU_n _ _ (by omega)).trans hR.2.2.2.2.2.2.2.2.2.2.2.2.2.2.2.2)⟩
      have sk1 := hs.trans gsk1
      exact go_at (ih (i + 1) (upd f1 i ((A 7) i)) _ _ (by omega) hRk1 (upS1 e1) sk1 hk) rfl (by rw [nI_succ i]; rfl) rfl rfl
set_option maxHeartbeats 4000000 in
theorem l_Ref_take3 {E : pmEv} {h0 : pmH} {z : Option Nat} {m : Nat} {g : Nat → Int32} {A : Nat → Nat → Int32} {Q : pmA → pmS → Prop} : ∀ (n : Nat) (i : Nat) (f5 : Nat → Int32) (h : pmH) (d : Bool), i + n = 240 → RfA h m g (uA A 5 f5) → (∀ k, k < i → f5 k = (A 11) k) → Sm h0 h m 17 → (∀ hx dx (f5' : Nat → Int32), RfA hx m g (uA A 5 f5') → (∀ k, k < 240 → f5' k = (A 11) k) → Sm h0 hx m 17 → Go E (mRef_take, h0, 0, 0) 158 [some (.ref m), some (.int (nI (240)))] [] (hx, z, dx) 0 0 (Q)) → Go E (mRef_take, h0, 0, 0) 133 [some (.ref m), some (.int (nI (i)))] [] (h, z, d) 0 0 (Q) := by
  intro n
  induction n with
  | zero =>
    intro i f5 h d hi hR e5 hs hk
    refine go_iload_n dRef_take_133 rfl ?_
    refine go_sipush (v := 240) dRef_take_134 (by decide) ?_
    refine go_icmp_ge (tgt := 158) dRef_take_137 (fun c1 => ?_) (fun c1 => ?_)
    · obtain rfl : i = 240 := by omega
      exact hk h d f5 hR e5 hs
    · exact absurd (nI_le (a := 240) (b := i) (by omega) (by omega)) c1
  | succ n ih =>
    intro i f5 h d hi hR e5 hs hk
    refine go_iload_n dRef_take_133 rfl ?_
    refine go_sipush (v := 240) dRef_take_134 (by decide) ?_
    refine go_icmp_ge (tgt := 158) dRef_take_137 (fun c1 => ?_) (fun c1 => ?_)
    · exact absurd c1 (nI_ge (a := i) (b := 240) (by omega) (by omega))
    · refine go_aload_n dRef_take_140 rfl ?_
      refine go_getf dRef_take_141 qf_Ref_25 hR.1 rfl ?_
      refine go_iload_n dRef_take_144 rfl ?_
      refine go_aload_n dRef_take_145 rfl ?_
      refine go_getf dRef_take_146 qf_Ref_43 hR.1 rfl ?_
      refine go_iload_n dRef_take_149 rfl ?_
      refine go_iald dRef_take_150 hR.2.2.2.2.2.2.2.2.2.2.2.2.1 (by exact vp_in_nI (by omega) (by omega)) (congrArg _ (nI_clamp (by omega))) ?_
      refine go_iast dRef_take_151 hR.2.2.2.2.2.2.1 (by exact vp_in_nI (by omega) (by omega)) (nI_clamp (by omega)) ?_
      refine go_iinc dRef_take_152 rfl (congrArg (_ + ·) lit1) ?_
      refine go_goto (tgt := 133) dRef_take_155 ?_
      refine go_nm (fun hnk1 enk1 => ?_)
      have gsk1 : Sm h hnk1 m 17 := by rw [enk1]; exact (Sm.put' (Sm.refl _ _ _) _ (by omega) (by omega))
      have hRk1 : RfA hnk1 m (g) ((uA A 5 (upd f5 i ((A 11) i)))) := ⟨(congrFun enk1 m).trans ((pmU_n _ _ (by omega)).trans hR.1), (congrFun enk1 (m + 1)).trans ((pmU_n _ _ (by omega)).trans hR.2.1), (congrFun enk1 (m + 2)).trans ((pmU_n _ _ (by omega)).trans hR.2.2.1), (congrFun enk1 (m + 3)).trans ((pmU_n _ _ (by omega)).trans hR.2.2.2.1), (congrFun enk1 (m + 4)).trans ((pmU_n _ _ (by omega)).trans hR.2.2.2.2.1), (congrFun enk1 (m + 5)).trans ((pmU_n _ _ (by omega)).trans hR.2.2.2.2.2.1), (congrFun enk1 (m + 6)).trans (pmU_s _ _ _), (congrFun enk1 (m + 7)).trans ((pmU_n _ _ (by omega)).trans hR.2.2.2.2.2.2.2.1), (congrFun enk1 (m + 8)).trans ((pmU_n _ _ (by omega)).trans hR.2.2.2.2.2.2.2.2.1), (congrFun enk1 (m + 9)).trans ((pmU_n _ _ (by omega)).trans hR.2.2.2.2.2.2.2.2.2.1), (congrFun enk1 (m + 10)).trans ((pmU_n _ _ (by omega)).trans hR.2.2.2.2.2.2.2.2.2.2.1), (congrFun enk1 (m + 11)).trans ((pmU_n _ _ (by omega)).trans hR.2.2.2.2.2.2.2.2.2.2.2.1), (congrFun enk1 (m + 12)).trans ((pmU_n _ _ (by omega)).trans hR.2.2.2.2.2.2.2.2.2.2.2.2.1), (congrFun enk1 (m + 13)).trans ((pmU_n _ _ (by omega)).trans hR.2.2.2.2.2.2.2.2.2.2.2.2.2.1), (congrFun enk1 (m + 14)).trans ((pmU_n _ _ (by omega)).trans hR.2.2.2.2.2.2.2.2.2.2.2.2.2.2.1), (congrFun enk1 (m + 15)).trans ((pmU_n _ _ (by omega)).trans hR.2.2.2.2.2.2.2.2.2.2.2.2.2.2.2.1), (congrFun enk1 (m + 16)).trans ((pmU_n _ _ (by omega)).trans hR.2.2.2.2.2.2.2.2.2.2.2.2.2.2.2.2)⟩
      have sk1 := hs.trans gsk1
      exact go_at (ih (i + 1) (upd f5 i ((A 11) i)) _ _ (by omega) hRk1 (upS1 e5) sk1 hk) rfl (by rw [nI_succ i]; rfl) rfl rfl
set_option maxHeartbeats 4000000 in
theorem l_Ref_take4 {E : pmEv} {h0 : pmH} {z : Option Nat} {m : Nat} {g : Nat → Int32} {A : Nat → Nat → Int32} {Q : pmA → pmS → Prop} : ∀ (n : Nat) (i : Nat) (f3 : Nat → Int32) (f4 : Nat → Int32) (h : pmH) (d : Bool), i + n = 6 → RfA h m g (uA (uA A 3 f3) 4 f4) → (∀ k, k < i → f3 k = (A 9) k) → (∀ k, k < i → f4 k = (A 10) k) → Sm h0 h m 17 → (∀ hx dx (f3' : Nat → Int32) (f4' : Nat → Int32), RfA hx m g (uA (uA A 3 f3') 4 f4') → (∀ k, k < 6 → f3' k = (A 9) k) → (∀ k, k < 6 → f4' k = (A 10) k) → Sm h0 hx m 17 → Go E (mRef_take, h0, 0, 0) 196 [some (.ref m), some (.int (nI (6)))] [] (hx, z, dx) 0 0 (Q)) → Go E (mRef_take, h0, 0, 0) 160 [some (.ref m), some (.int (nI (i)))] [] (h, z, d) 0 0 (Q) := by
  intro n
  induction n with
  | zero =>
    intro i f3 f4 h d hi hR e3 e4 hs hk
    refine go_iload_n dRef_take_160 rfl ?_
    refine go_bipush (v := 6) dRef_take_161 (by decide) ?_
    refine go_icmp_ge (tgt := 196) dRef_take_163 (fun c1 => ?_) (fun c1 => ?_)
    · obtain rfl : i = 6 := by omega
      exact hk h d f3 f4 hR e3 e4 hs
    · exact absurd (nI_le (a := 6) (b := i) (by omega) (by omega)) c1
  | succ n ih =>
    intro i f3 f4 h d hi hR e3 e4 hs hk
    refine go_iload_n dRef_take_160 rfl ?_
    refine go_bipush (v := 6) dRef_take_161 (by decide) ?_
    refine go_icmp_ge (tgt := 196) dRef_take_163 (fun c1 => ?_) (fun c1 => ?_)
    · exact absurd c1 (nI_ge (a := i) (b := 6) (by omega) (by omega))
    · refine go_aload_n dRef_take_166 rfl ?_
      refine go_getf dRef_take_167 qf_Ref_19 hR.1 rfl ?_
      refine go_iload_n dRef_take_170 rfl ?_
      refine go_aload_n dRef_take_171 rfl ?_
      refine go_getf dRef_take_172 qf_Ref_37 hR.1 rfl ?_
      refine go_iload_n dRef_take_175 rfl ?_
      refine go_iald dRef_take_176 hR.2.2.2.2.2.2.2.2.2.2.1 (by exact vp_in_nI (by omega) (by omega)) (congrArg _ (nI_clamp (by omega))) ?_
      refine go_iast dRef_take_177 hR.2.2.2.2.1 (by exact vp_in_nI (by omega) (by omega)) (nI_clamp (by omega)) ?_
      refine go_aload_n dRef_take_178 rfl ?_
      refine go_getf dRef_take_179 qf_Ref_22 ((pmU_n _ _ (by omega)).trans hR.1) rfl ?_
      refine go_iload_n dRef_take_182 rfl ?_
      refine go_aload_n dRef_take_183 rfl ?_
      refine go_getf dRef_take_184 qf_Ref_40 ((pmU_n _ _ (by omega)).trans hR.1) rfl ?_
      refine go_iload_n dRef_take_187 rfl ?_
      refine go_iald dRef_take_188 ((pmU_n _ _ (by omega)).trans hR.2.2.2.2.2.2.2.2.2.2.2.1) (by exact vp_in_nI (by omega) (by omega)) (congrArg _ (nI_clamp (by omega))) ?_
      refine go_iast dRef_take_189 ((pmU_n _ _ (by omega)).trans hR.2.2.2.2.2.1) (by exact vp_in_nI (by omega) (by omega)) (nI_clamp (by omega)) ?_
      refine go_iinc dRef_take_190 rfl (congrArg (_ + ·) lit1) ?_
      refine go_goto (tgt := 160) dRef_take_193 ?_
      refine go_nm (fun hnk1 enk1 => ?_)
      have gsk1 : Sm h hnk1 m 17 := by rw [enk1]; exact (Sm.put' (Sm.put' (Sm.refl _ _ _) _ (by omega) (by omega)) _ (by omega) (by omega))
      have hRk1 : RfA hnk1 m (g) ((uA (uA A 3 (upd f3 i ((A 9) i))) 4 (upd f4 i ((A 10) i)))) := ⟨(congrFun enk1 m).trans ((pmU_n _ _ (by omega)).trans ((pmU_n _ _ (by omega)).trans hR.1)), (congrFun enk1 (m + 1)).trans ((pmU_n _ _ (by omega)).trans ((pmU_n _ _ (by omega)).trans hR.2.1)), (congrFun enk1 (m + 2)).trans ((pmU_n _ _ (by omega)).trans ((pmU_n _ _ (by omega)).trans hR.2.2.1)), (congrFun enk1 (m + 3)).trans ((pmU_n _ _ (by omega)).trans ((pmU_n _ _ (by omega)).trans hR.2.2.2.1)), (congrFun enk1 (m + 4)).trans ((pmU_n _ _ (by omega)).trans (pmU_s _ _ _)), (congrFun enk1 (m + 5)).trans (pmU_s _ _ _), (congrFun enk1 (m + 6)).trans ((pmU_n _ _ (by omega)).trans ((pmU_n _ _ (by omega)).trans hR.2.2.2.2.2.2.1)), (congrFun enk1 (m + 7)).trans ((pmU_n _ _ (by omega)).trans ((pmU_n _ _ (by omega)).trans hR.2.2.2.2.2.2.2.1)), (congrFun enk1 (m + 8)).trans ((pmU_n _ _ (by omega)).trans ((pmU_n _ _ (by omega)).trans hR.2.2.2.2.2.2.2.2.1)), (congrFun enk1 (m + 9)).trans ((pmU_n _ _ (by omega)).trans ((pmU_n _ _ (by omega)).trans hR.2.2.2.2.2.2.2.2.2.1)), (congrFun enk1 (m + 10)).trans ((pmU_n _ _ (by omega)).trans ((pmU_n _ _ (by omega)).trans hR.2.2.2.2.2.2.2.2.2.2.1)), (congrFun enk1 (m + 11)).trans ((pmU_n _ _ (by omega)).trans ((pmU_n _ _ (by omega)).trans hR.2.2.2.2.2.2.2.2.2.2.2.1)), (congrFun enk1 (m + 12)).trans ((pmU_n _ _ (by omega)).trans ((pmU_n _ _ (by omega)).trans hR.2.2.2.2.2.2.2.2.2.2.2.2.1)), (congrFun enk1 (m + 13)).trans ((pmU_n _ _ (by omega)).trans ((pmU_n _ _ (by omega)).trans hR.2.2.2.2.2.2.2.2.2.2.2.2.2.1)), (congrFun enk1 (m + 14)).trans ((pmU_n _ _ (by omega)).trans ((pmU_n _ _ (by omega)).trans hR.2.2.2.2.2.2.2.2.2.2.2.2.2.2.1)), (congrFun enk1 (m + 15)).trans ((pmU_n _ _ (by omega)).trans ((pmU_n _ _ (by omega)).trans hR.2.2.2.2.2.2.2.2.2.2.2.2.2.2.2.1)), (congrFun enk1 (m + 16)).trans ((pmU_n _ _ (by omega)).trans ((pmU_n _ _ (by omega)).trans hR.2.2.2.2.2.2.2.2.2.2.2.2.2.2.2.2))⟩
      have sk1 := hs.trans gsk1
      exact go_at (ih (i + 1) (upd f3 i ((A 9) i)) (upd f4 i ((A 10) i)) _ _ (by omega) hRk1 (upS1 e3) (upS1 e4) sk1 hk) rfl (by rw [nI_succ i]; rfl) rfl rfl
set_option maxHeartbeats 4000000 in
theorem l_Ref_take5 {E : pmEv} {h0 : pmH} {z : Option Nat} {m : Nat} {g : Nat → Int32} {A : Nat → Nat → Int32} {Q : pmA → pmS → Prop} : ∀ (n : Nat) (i : Nat) (f2 : Nat → Int32) (h : pmH) (d : Bool), i + n = 3 → RfA h m g (uA A 2 f2) → (∀ k, k < i → f2 k = (A 8) k) → Sm h0 h m 17 → (∀ hx dx (f2' : Nat → Int32), RfA hx m g (uA A 2 f2') → (∀ k, k < 3 → f2' k = (A 8) k) → Sm h0 hx m 17 → Go E (mRef_take, h0, 0, 0) 221 [some (.ref m), some (.int (nI (3)))] [] (hx, z, dx) 0 0 (Q)) → Go E (mRef_take, h0, 0, 0) 198 [some (.ref m), some (.int (nI (i)))] [] (h, z, d) 0 0 (Q) := by
  intro n
  induction n with
  | zero =>
    intro i f2 h d hi hR e2 hs hk
    refine go_iload_n dRef_take_198 rfl ?_
    refine go_iconst (v := 3) dRef_take_199 (by decide) ?_
    refine go_icmp_ge (tgt := 221) dRef_take_200 (fun c1 => ?_) (fun c1 => ?_)
    · obtain rfl : i = 3 := by omega
      exact hk h d f2 hR e2 hs
    · exact absurd (nI_le (a := 3) (b := i) (by omega) (by omega)) c1
  | succ n ih =>
    intro i f2 h d hi hR e2 hs hk
    refine go_iload_n dRef_take_198 rfl ?_
    refine go_iconst (v := 3) dRef_take_199 (by decide) ?_
    refine go_icmp_ge (tgt := 221) dRef_take_200 (fun c1 => ?_) (fun c1 => ?_)
    · exact absurd c1 (nI_ge (a := i) (b := 3) (by omega) (by omega))
    · refine go_aload_n dRef_take_203 rfl ?_
      refine go_getf dRef_take_204 qf_Ref_16 hR.1 rfl ?_
      refine go_iload_n dRef_take_207 rfl ?_
      refine go_aload_n dRef_take_208 rfl ?_
      refine go_getf dRef_take_209 qf_Ref_34 hR.1 rfl ?_
      refine go_iload_n dRef_take_212 rfl ?_
      refine go_iald dRef_take_213 hR.2.2.2.2.2.2.2.2.2.1 (by exact vp_in_nI (by omega) (by omega)) (congrArg _ (nI_clamp (by omega))) ?_
      refine go_iast dRef_take_214 hR.2.2.2.1 (by exact vp_in_nI (by omega) (by omega)) (nI_clamp (by omega)) ?_
      refine go_iinc dRef_take_215 rfl (congrArg (_ + ·) lit1) ?_
      refine go_goto (tgt := 198) dRef_take_218 ?_
      refine go_nm (fun hnk1 enk1 => ?_)
      have gsk1 : Sm h hnk1 m 17 := by rw [enk1]; exact (Sm.put' (Sm.refl _ _ _) _ (by omega) (by omega))
      have hRk1 : RfA hnk1 m (g) ((uA A 2 (upd f2 i ((A 8) i)))) := ⟨(congrFun enk1 m).trans ((pmU_n _ _ (by omega)).trans hR.1), (congrFun enk1 (m + 1)).trans ((pmU_n _ _ (by omega)).trans hR.2.1), (congrFun enk1 (m + 2)).trans ((pmU_n _ _ (by omega)).trans hR.2.2.1), (congrFun enk1 (m + 3)).trans (pmU_s _ _ _), (congrFun enk1 (m + 4)).trans ((pmU_n _ _ (by omega)).trans hR.2.2.2.2.1), (congrFun enk1 (m + 5)).trans ((pmU_n _ _ (by omega)).trans hR.2.2.2.2.2.1), (congrFun enk1 (m + 6)).trans ((pmU_n _ _ (by omega)).trans hR.2.2.2.2.2.2.1), (congrFun enk1 (m + 7)).trans ((pmU_n _ _ (by omega)).trans hR.2.2.2.2.2.2.2.1), (congrFun enk1 (m + 8)).trans ((pmU_n _ _ (by omega)).trans hR.2.2.2.2.2.2.2.2.1), (congrFun enk1 (m + 9)).trans ((pmU_n _ _ (by omega)).trans hR.2.2.2.2.2.2.2.2.2.1), (congrFun enk1 (m + 10)).trans ((pmU_n _ _ (by omega)).trans hR.2.2.2.2.2.2.2.2.2.2.1), (congrFun enk1 (m + 11)).trans ((pmU_n _ _ (by omega)).trans hR.2.2.2.2.2.2.2.2.2.2.2.1), (congrFun enk1 (m + 12)).trans ((pmU_n _ _ (by omega)).trans hR.2.2.2.2.2.2.2.2.2.2.2.2.1), (congrFun enk1 (m + 13)).trans ((pmU_n _ _ (by omega)).trans hR.2.2.2.2.2.2.2.2.2.2.2.2.2.1), (congrFun enk1 (m + 14)).trans ((pmU_n _ _ (by omega)).trans hR.2.2.2.2.2.2.2.2.2.2.2.2.2.2.1), (congrFun enk1 (m + 15)).trans ((pmU_n _ _ (by omega)).trans hR.2.2.2.2.2.2.2.2.2.2.2.2.2.2.2.1), (congrFun enk1 (m + 16)).trans ((pmU_n _ _ (by omega)).trans hR.2.2.2.2.2.2.2.2.2.2.2.2.2.2.2.2)⟩
      have sk1 := hs.trans gsk1
      exact go_at (ih (i + 1) (upd f2 i ((A 8) i)) _ _ (by omega) hRk1 (upS1 e2) sk1 hk) rfl (by rw [nI_succ i]; rfl) rfl rfl
set_option maxHeartbeats 4000000 in
theorem r_take {E : pmEv} {h : pmH} {m : Nat} {g : Nat → Int32} {A : Nat → Nat → Int32} {α : aPF} (hR : RfA h m g A) (hr : RR g A α) (hv : IvA α) : Call E mRef_take [.ref m] h none 0 0 (RetR m h [1] none (taF α)) := by
  have hs : Sm h h m 17 := Sm.refl _ _ _
  have ho := hr.1
  have ht : g 1 = 0 ↔ ¬ α.1.1 = true := by rw [ho.1]; exact bI_0
  have hq := hr.2.2.2
  have ht2 : g 14 = 0 ↔ ¬ ¬ α.2.2.2.2.2 0 = 0 := by rw [hq.2.1]; exact bI_0
  refine call_of (L := [some (.ref m), none]) ok_mRef_take (Nat.le_of_ble_eq_true rfl) ?_
  refine go_aload_n dRef_take_0 rfl ?_
  refine go_aload_n dRef_take_1 rfl ?_
  refine go_getf dRef_take_2 qf_Ref_274 hR.1 rfl ?_
  refine go_if_eq (tgt := 12) dRef_take_5 (fun c1 => ?_) (fun c1 => ?_)
  · refine go_iconst (v := 1) dRef_take_12 (by decide) ?_
    refine go_putf dRef_take_13 qf_Ref_59 pw_8_0 hR.1 rfl rfl ?_
    refine go_aload_n dRef_take_16 rfl ?_
    refine go_getf dRef_take_17 qf_Ref_59 (pmU_s _ _ _) rfl ?_
    refine go_if_le (tgt := 24) dRef_take_20 (fun cc => absurd cc (by decide)) (fun _ => ?_)
    refine go_nm (fun hnk1 enk1 => ?_)
    have gsk1 : Sm h hnk1 m 17 := by rw [enk1]; exact (Sm.put' (Sm.refl _ _ _) _ (by omega) (by omega))
    have hRk1 : RfA hnk1 m (upd g 0 1) (A) := ⟨(congrFun enk1 m).trans (pmU_s _ _ _), (congrFun enk1 (m + 1)).trans ((pmU_n _ _ (by omega)).trans hR.2.1), (congrFun enk1 (m + 2)).trans ((pmU_n _ _ (by omega)).trans hR.2.2.1), (congrFun enk1 (m + 3)).trans ((pmU_n _ _ (by omega)).trans hR.2.2.2.1), (congrFun enk1 (m + 4)).trans ((pmU_n _ _ (by omega)).trans hR.2.2.2.2.1), (congrFun enk1 (m + 5)).trans ((pmU_n _ _ (by omega)).trans hR.2.2.2.2.2.1), (congrFun enk1 (m + 6)).trans ((pmU_n _ _ (by omega)).trans hR.2.2.2.2.2.2.1), (congrFun enk1 (m + 7)).trans ((pmU_n _ _ (by omega)).trans hR.2.2.2.2.2.2.2.1), (congrFun enk1 (m + 8)).trans ((pmU_n _ _ (by omega)).trans hR.2.2.2.2.2.2.2.2.1), (congrFun enk1 (m + 9)).trans ((pmU_n _ _ (by omega)).trans hR.2.2.2.2.2.2.2.2.2.1), (congrFun enk1 (m + 10)).trans ((pmU_n _ _ (by omega)).trans hR.2.2.2.2.2.2.2.2.2.2.1), (congrFun enk1 (m + 11)).trans ((pmU_n _ _ (by omega)).trans hR.2.2.2.2.2.2.2.2.2.2.2.1), (congrFun enk1 (m + 12)).trans ((pmU_n _ _ (by omega)).trans hR.2.2.2.2.2.2.2.2.2.2.2.2.1), (congrFun enk1 (m + 13)).trans ((pmU_n _ _ (by omega)).trans hR.2.2.2.2.2.2.2.2.2.2.2.2.2.1), (congrFun enk1 (m + 14)).trans ((pmU_n _ _ (by omega)).trans hR.2.2.2.2.2.2.2.2.2.2.2.2.2.2.1), (congrFun enk1 (m + 15)).trans ((pmU_n _ _ (by omega)).trans hR.2.2.2.2.2.2.2.2.2.2.2.2.2.2.2.1), (congrFun enk1 (m + 16)).trans ((pmU_n _ _ (by omega)).trans hR.2.2.2.2.2.2.2.2.2.2.2.2.2.2.2.2)⟩
    have sk1 := hs.trans gsk1
    refine go_vret dRef_take_23 rfl ?_ (Nat.le_of_ble_eq_true rfl) (Nat.le_of_ble_eq_true rfl)
    exact retR_no (by rw [taF, if_pos (Decidable.not_not.mp (ht2.mp c1))]) hRk1 hr rfl sk1
  · have t1 : ¬ α.2.2.2.2.2 0 = 0 := Decidable.not_not.mp fun q => c1 (ht2.mpr q)
    have hp := (hq.2.2 t1).1
    have hd := hp.1
    have hvp := (hv.2.2.2 t1).1
    have hok := hvp.1
    have hb := hok.b
    have hkk := hok.k
    have hwh := hok.w
    have hch := chN_le α.2.2.2.1.2.1.2.2.2
    have hc64 := hvp.2.1.1
    have hx6 := hvp.2.2.1.1
    refine go_iconst (v := 0) dRef_take_8 (by decide) ?_
    refine go_goto (tgt := 13) dRef_take_9 ?_
    refine go_putf dRef_take_13 qf_Ref_59 pw_8_0 hR.1 rfl rfl ?_
    refine go_aload_n dRef_take_16 rfl ?_
    refine go_getf dRef_take_17 qf_Ref_59 (pmU_s _ _ _) rfl ?_
    refine go_if_le (tgt := 24) dRef_take_20 (fun _ => ?_) (fun cc => absurd (by decide) cc)
    refine go_aload_n dRef_take_24 rfl ?_
    refine go_iconst (v := 1) dRef_take_25 (by decide) ?_
    refine go_putf dRef_take_26 qf_Ref_67 pw_8_1 (pmU_s _ _ _) rfl rfl ?_
    refine go_aload_n dRef_take_29 rfl ?_
    refine go_aload_n dRef_take_30 rfl ?_
    refine go_getf dRef_take_31 qf_Ref_233 (pmU_s _ _ _) rfl ?_
    refine go_putf dRef_take_34 qf_Ref_71 pw_8_2 (pmU_s _ _ _) rfl rfl ?_
    refine go_aload_n dRef_take_37 rfl ?_
    refine go_aload_n dRef_take_38 rfl ?_
    refine go_getf dRef_take_39 qf_Ref_236 (pmU_s _ _ _) rfl ?_
    refine go_putf dRef_take_42 qf_Ref_74 pw_8_3 (pmU_s _ _ _) rfl rfl ?_
    refine go_aload_n dRef_take_45 rfl ?_
    refine go_aload_n dRef_take_46 rfl ?_
    refine go_getf dRef_take_47 qf_Ref_239 (pmU_s _ _ _) rfl ?_
    refine go_putf dRef_take_50 qf_Ref_77 pw_8_4 (pmU_s _ _ _) rfl rfl ?_
    refine go_aload_n dRef_take_53 rfl ?_
    refine go_aload_n dRef_take_54 rfl ?_
    refine go_getf dRef_take_55 qf_Ref_224 (pmU_s _ _ _) rfl ?_
    refine go_putf dRef_take_58 qf_Ref_80 pw_8_5 (pmU_s _ _ _) rfl rfl ?_
    refine go_aload_n dRef_take_61 rfl ?_
    refine go_aload_n dRef_take_62 rfl ?_
    refine go_getf dRef_take_63 qf_Ref_242 (pmU_s _ _ _) rfl ?_
    refine go_putf dRef_take_66 qf_Ref_83 pw_8_7 (pmU_s _ _ _) rfl rfl ?_
    refine go_aload_n dRef_take_69 rfl ?_
    refine go_aload_n dRef_take_70 rfl ?_
    refine go_getf dRef_take_71 qf_Ref_248 (pmU_s _ _ _) rfl ?_
    refine go_putf dRef_take_74 qf_Ref_86 pw_8_10 (pmU_s _ _ _) rfl rfl ?_
    refine go_nm (fun hnk2 enk2 => ?_)
    have gsk2 : Sm h hnk2 m 17 := by rw [enk2]; exact (Sm.put' (Sm.put' (Sm.put' (Sm.put' (Sm.put' (Sm.put' (Sm.put' (Sm.put' (Sm.refl _ _ _) _ (by omega) (by omega)) _ (by omega) (by omega)) _ (by omega) (by omega)) _ (by omega) (by omega)) _ (by omega) (by omega)) _ (by omega) (by omega)) _ (by omega) (by omega)) _ (by omega) (by omega))
    have hRk2 : RfA hnk2 m ((upd (upd (upd (upd (upd (upd (upd (upd g 0 0) 1 1) 2 (g 15)) 3 (g 16)) 4 (g 17)) 5 (g 18)) 7 (g 20)) 10 (g 23))) (A) := ⟨(congrFun enk2 m).trans (pmU_s _ _ _), (congrFun enk2 (m + 1)).trans ((pmU_n _ _ (by omega)).trans ((pmU_n _ _ (by omega)).trans ((pmU_n _ _ (by omega)).trans ((pmU_n _ _ (by omega)).trans ((pmU_n _ _ (by omega)).trans ((pmU_n _ _ (by omega)).trans ((pmU_n _ _ (by omega)).trans ((pmU_n _ _ (by omega)).trans hR.2.1)))))))), (congrFun enk2 (m + 2)).trans ((pmU_n _ _ (by omega)).trans ((pmU_n _ _ (by omega)).trans ((pmU_n _ _ (by omega)).trans ((pmU_n _ _ (by omega)).trans ((pmU_n _ _ (by omega)).trans ((pmU_n _ _ (by omega)).trans ((pmU_n _ _ (by omega)).trans ((pmU_n _ _ (by omega)).trans hR.2.2.1)))))))), (congrFun enk2 (m + 3)).trans ((pmU_n _ _ (by omega)).trans ((pmU_n _ _ (by omega)).trans ((pmU_n _ _ (by omega)).trans ((pmU_n _ _ (by omega)).trans ((pmU_n _ _ (by omega)).trans ((pmU_n _ _ (by omega)).trans ((pmU_n _ _ (by omega)).trans ((pmU_n _ _ (by omega)).trans hR.2.2.2.1)))))))), (congrFun enk2 (m + 4)).trans ((pmU_n _ _ (by omega)).trans ((pmU_n _ _ (by omega)).trans ((pmU_n _ _ (by omega)).trans ((pmU_n _ _ (by omega)).trans ((pmU_n _ _ (by omega)).trans ((pmU_n _ _ (by omega)).trans ((pmU_n _ _ (by omega)).trans ((pmU_n _ _ (by omega)).trans hR.2.2.2.2.1)))))))), (congrFun enk2 (m + 5)).trans ((pmU_n _ _ (by omega)).trans ((pmU_n _ _ (by omega)).trans ((pmU_n _ _ (by omega)).trans ((pmU_n _ _ (by omega)).trans ((pmU_n _ _ (by omega)).trans ((pmU_n _ _ (by omega)).trans ((pmU_n _ _ (by omega)).trans ((pmU_n _ _ (by omega)).trans hR.2.2.2.2.2.1)))))))), (congrFun enk2 (m + 6)).trans ((pmU_n _ _ (by omega)).trans ((pmU_n _ _ (by omega)).trans ((pmU_n _ _ (by omega)).trans ((pmU_n _ _ (by omega)).trans ((pmU_n _ _ (by omega)).trans ((pmU_n _ _ (by omega)).trans ((pmU_n _ _ (by omega)).trans ((pmU_n _ _ (by omega)).trans hR.2.2.2.2.2.2.1)))))))), (congrFun enk2 (m + 7)).trans ((pmU_n _ _ (by omega)).trans ((pmU_n _ _ (by omega)).trans ((pmU_n _ _ (by omega)).trans ((pmU_n _ _ (by omega)).trans ((pmU_n _ _ (by omega)).trans ((pmU_n _ _ (by omega)).trans ((pmU_n _ _ (by omega)).trans ((pmU_n _ _ (by omega)).trans hR.2.2.2.2.2.2.2.1)))))))), (congrFun enk2 (m + 8)).trans ((pmU_n _ _ (by omega)).trans ((pmU_n _ _ (by omega)).trans ((pmU_n _ _ (by omega)).trans ((pmU_n _ _ (by omega)).trans ((pmU_n _ _ (by omega)).trans ((pmU_n _ _ (by omega)).trans ((pmU_n _ _ (by omega)).trans ((pmU_n _ _ (by omega)).trans hR.2.2.2.2.2.2.2.2.1)))))))), (congrFun enk2 (m + 9)).trans ((pmU_n _ _ (by omega)).trans ((pmU_n _ _ (by omega)).trans ((pmU_n _ _ (by omega)).trans ((pmU_n _ _ (by omega)).trans ((pmU_n _ _ (by omega)).trans ((pmU_n _ _ (by omega)).trans ((pmU_n _ _ (by omega)).trans ((pmU_n _ _ (by omega)).trans hR.2.2.2.2.2.2.2.2.2.1)))))))), (congrFun enk2 (m + 10)).trans ((pmU_n _ _ (by omega)).trans ((pmU_n _ _ (by omega)).trans ((pmU_n _ _ (by omega)).trans ((pmU_n _ _ (by omega)).trans ((pmU_n _ _ (by omega)).trans ((pmU_n _ _ (by omega)).trans ((pmU_n _ _ (by omega)).trans ((pmU_n _ _ (by omega)).trans hR.2.2.2.2.2.2.2.2.2.2.1)))))))), (congrFun enk2 (m + 11)).trans ((pmU_n _ _ (by omega)).trans ((pmU_n _ _ (by omega)).trans ((pmU_n _ _ (by omega)).trans ((pmU_n _ _ (by omega)).trans ((pmU_n _ _ (by omega)).trans ((pmU_n _ _ (by omega)).trans ((pmU_n _ _ (by omega)).trans ((pmU_n _ _ (by omega)).trans hR.2.2.2.2.2.2.2.2.2.2.2.1)))))))), (congrFun enk2 (m + 12)).trans ((pmU_n _ _ (by omega)).trans ((pmU_n _ _ (by omega)).trans ((pmU_n _ _ (by omega)).trans ((pmU_n _ _ (by omega)).trans ((pmU_n _ _ (by omega)).trans ((pmU_n _ _ (by omega)).trans ((pmU_n _ _ (by omega)).trans ((pmU_n _ _ (by omega)).trans hR.2.2.2.2.2.2.2.2.2.2.2.2.1)))))))), (congrFun enk2 (m + 13)).trans ((pmU_n _ _ (by omega)).trans ((pmU_n _ _ (by omega)).trans ((pmU_n _ _ (by omega)).trans ((pmU_n _ _ (by omega)).trans ((pmU_n _ _ (by omega)).trans ((pmU_n _ _ (by omega)).trans ((pmU_n _ _ (by omega)).trans ((pmU_n _ _ (by omega)).trans hR.2.2.2.2.2.2.2.2.2.2.2.2.2.1)))))))), (congrFun enk2 (m + 14)).trans ((pmU_n _ _ (by omega)).trans ((pmU_n _ _ (by omega)).trans ((pmU_n _ _ (by omega)).trans ((pmU_n _ _ (by omega)).trans ((pmU_n _ _ (by omega)).trans ((pmU_n _ _ (by omega)).trans ((pmU_n _ _ (by omega)).trans ((pmU_n _ _ (by omega)).trans hR.2.2.2.2.2.2.2.2.2.2.2.2.2.2.1)))))))), (congrFun enk2 (m + 15)).trans ((pmU_n _ _ (by omega)).trans ((pmU_n _ _ (by omega)).trans ((pmU_n _ _ (by omega)).trans ((pmU_n _ _ (by omega)).trans ((pmU_n _ _ (by omega)).trans ((pmU_n _ _ (by omega)).trans ((pmU_n _ _ (by omega)).trans ((pmU_n _ _ (by omega)).trans hR.2.2.2.2.2.2.2.2.2.2.2.2.2.2.2.1)))))))), (congrFun enk2 (m + 16)).trans ((pmU_n _ _ (by omega)).trans ((pmU_n _ _ (by omega)).trans ((pmU_n _ _ (by omega)).trans ((pmU_n _ _ (by omega)).trans ((pmU_n _ _ (by omega)).trans ((pmU_n _ _ (by omega)).trans ((pmU_n _ _ (by omega)).trans ((pmU_n _ _ (by omega)).trans hR.2.2.2.2.2.2.2.2.2.2.2.2.2.2.2.2))))))))⟩
    have sk2 := hs.trans gsk2
    refine go_iconst (v := 0) dRef_take_77 (by decide) ?_
    refine go_istore_n dRef_take_78 ?_
    refine l_Ref_take1 (g := (upd (upd (upd (upd (upd (upd (upd (upd g 0 0) 1 1) 2 (g 15)) 3 (g 16)) 4 (g 17)) 5 (g 18)) 7 (g 20)) 10 (g 23))) (A := A) 576 0 (A 0) _ _ (by omega) hRk2 (fun k hk => absurd hk (Nat.not_lt_zero k)) sk2 (fun y0 dy0 p1 hR10 ep1 hs10 => ?_)
    refine go_iconst (v := 0) dRef_take_104 (by decide) ?_
    refine go_istore_n dRef_take_105 ?_
    refine l_Ref_take2 (g := (upd (upd (upd (upd (upd (upd (upd (upd g 0 0) 1 1) 2 (g 15)) 3 (g 16)) 4 (g 17)) 5 (g 18)) 7 (g 20)) 10 (g 23))) (A := (uA A 0 p1)) 256 0 (A 1) _ _ (by omega) hR10 (fun k hk => absurd hk (Nat.not_lt_zero k)) hs10 (fun y1 dy1 p2 hR11 ep2 hs11 => ?_)
    refine go_iconst (v := 0) dRef_take_131 (by decide) ?_
    refine go_istore_n dRef_take_132 ?_
    refine l_Ref_take3 (g := (upd (upd (upd (upd (upd (upd (upd (upd g 0 0) 1 1) 2 (g 15)) 3 (g 16)) 4 (g 17)) 5 (g 18)) 7 (g 20)) 10 (g 23))) (A := (uA (uA A 0 p1) 1 p2)) 240 0 (A 5) _ _ (by omega) hR11 (fun k hk => absurd hk (Nat.not_lt_zero k)) hs11 (fun y2 dy2 p3 hR12 ep3 hs12 => ?_)
    refine go_iconst (v := 0) dRef_take_158 (by decide) ?_
    refine go_istore_n dRef_take_159 ?_
    refine l_Ref_take4 (g := (upd (upd (upd (upd (upd (upd (upd (upd g 0 0) 1 1) 2 (g 15)) 3 (g 16)) 4 (g 17)) 5 (g 18)) 7 (g 20)) 10 (g 23))) (A := (uA (uA (uA A 0 p1) 1 p2) 5 p3)) 6 0 (A 3) (A 4) _ _ (by omega) hR12 (fun k hk => absurd hk (Nat.not_lt_zero k)) (fun k hk => absurd hk (Nat.not_lt_zero k)) hs12 (fun y3 dy3 p4 p5 hR13 ep4 ep5 hs13 => ?_)
    refine go_iconst (v := 0) dRef_take_196 (by decide) ?_
    refine go_istore_n dRef_take_197 ?_
    refine l_Ref_take5 (g := (upd (upd (upd (upd (upd (upd (upd (upd g 0 0) 1 1) 2 (g 15)) 3 (g 16)) 4 (g 17)) 5 (g 18)) 7 (g 20)) 10 (g 23))) (A := (uA (uA (uA (uA (uA A 0 p1) 1 p2) 5 p3) 3 p4) 4 p5)) 3 0 (A 2) _ _ (by omega) hR13 (fun k hk => absurd hk (Nat.not_lt_zero k)) hs13 (fun y4 dy4 p6 hR14 ep6 hs14 => ?_)
    refine go_vret dRef_take_221 rfl ?_ (Nat.le_of_ble_eq_true rfl) (Nat.le_of_ble_eq_true rfl)
    exact retR_ok (β := (α.2.2.2.1, α.2)) (by rw [taF, if_neg t1]) hR14 ⟨⟨(bI_t (hv.2.2.2 t1).2).symm, fun _ => ⟨hd, fun x hx y hy u hu => (ep1 _ (pos_lt hok hx hy hu)).trans (hp.2.1 x hx y hy u hu), fun i hi => (ep6 i hi).trans (hp.2.2.1 i hi)⟩, ⟨hp.2.2.2.1.1, fun i hi => (ep2 i (Nat.lt_of_lt_of_le hi (Nat.mul_le_mul_left 4 hc64))).trans (hp.2.2.2.1.2 i hi)⟩, ⟨hp.2.2.2.2.1, eAr.cp hx6 hp.2.2.2.2.2 ep4 ep5 ep3⟩⟩, hr.2.1, hr.2.2.1, hr.2.2.2⟩ rfl hs14
