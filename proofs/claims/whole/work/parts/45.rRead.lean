/-! ===== the reference: chunk, begin, read (by wip/whole/gen_rRead.py) ===== -/
def RetV (P : Int32 → pmH → Prop) (z : Option Nat) : pmA → pmS → Prop := fun o S => ∃ v, o = .inl (some (.int v)) ∧ P v S.1 ∧ S.2.1 = z
theorem retV {P : Int32 → pmH → Prop} {z : Option Nat} {h' : pmH} {d : Bool} {v : Int32} (hP : P v h') : RetV P z (.inl (some (.int v))) (h', z, d) := ⟨v, rfl, hP, rfl⟩
section PRV
variable {E : pmEv} {F : pmFr} {pc : Nat} {L : pmL} {st : List Value} {S : pmS} {k n : Nat} {Q : pmA → pmS → Prop}
theorem go_virtV {x b ci : Nat} {fs : List Value} {r : vw_C} {M : pmMeth} {vs rest st0 : List Value} {P : Int32 → pmH → Prop} {hh : pmH} {zz : Option Nat} {dd : Bool} {pc' : Nat} (hd : decode F.1.2.1 pc = .ok (.invokevirtual x, 3)) (hok : pmOk M) (him : Cond.instanceMethod M.1 ∈ pmW) (hse : Cond.selects M.1.cls M.1 M.1 ∈ pmW) (hl : Cond.methodLink F.1.1.cls x M.1 ∈ pmW) (hb : hh b = some (pmO ci fs)) (hC : Call E M (.ref b :: vs) hh zz 0 0 (RetV P zz))
    (h : ∀ v h' d, P v h' → Go E F pc' L (.int v :: rest) (h', zz, d) k n Q)
    (hr : pmCl[ci]? = some r := by rfl) (hrc : r.1 = M.1.cls := by rfl) (hs0 : st0 = vs.reverse ++ .ref b :: rest := by rfl) (hnp : (parseMethodDescriptor M.1.desc).map (fun d => d.parameters.length) = some vs.length := by decide +kernel) (hfr : M.2.2.2.2.2.2.2.1 + 1 ≤ F.1.2.2.2.2.2.2.2.1 := by exact Nat.le_of_ble_eq_true rfl) (hlo : 8 + (M.2.2.1 + 11) + M.2.2.2.2.2.2.2.2 ≤ F.1.2.2.2.2.2.2.2.2 := by exact Nat.le_of_ble_eq_true rfl) (hcl : k ≤ F.2.2.1 := by exact Nat.le_of_ble_eq_true rfl) (hsl : n ≤ F.2.2.2 := by exact Nat.le_of_ble_eq_true rfl) (hW : (rest.map fun v => v.category).sum ≤ 8 := by exact Nat.le_of_ble_eq_true rfl) (hp : pc + 3 = pc' := by rfl) : Go E F pc L st0 (hh, zz, dd) k n Q :=
  go_virt hd hok him hse hl hb hC (fun v' S'' hq => by obtain ⟨v, h1, h2, h3⟩ := hq; cases h1; rw [h3]; exact h _ _ _ h2) (fun x S'' hq => by obtain ⟨v, h1, -⟩ := hq; cases h1) hr hrc hs0 hnp hfr hlo hcl hsl hW hp
end PRV
def RdP (g : Nat → Int32) (A : Nat → Nat → Int32) (S : aRs) : Prop := RP g A (enS S).1.2 ∧ IvP (enS S).1.2 ∧ S.1.1 = true ∧ g 27 = S.2.2 4
def ChQ (m : Nat) (h : pmH) (o : Bool × aPic) (w p : aRow) (a : Nat) (S : aRs) (v : Int32) (h' : pmH) : Prop := ∃ g A, RfA h' m g A ∧ Sm h h' m 17 ∧ RB g A o w p ∧ ((¬ rcV p a S = 0 ∧ g 28 = rcV p a S ∧ g 33 = nI a) ∨ (rcV p a S = 0 ∧ ((¬ fr p.1 (a + 4) = 1229278788 ∧ RG g A (rcS p a S) (a + 12 + lnN p a) ∧ v = (if smW p a then 1 else 0)) ∨ (fr p.1 (a + 4) = 1229278788 ∧ v = 2 ∧ ((¬ enOk (rcS p a S) ∧ g 28 = 8 ∧ g 33 = nI a) ∨ (enOk (rcS p a S) ∧ g 28 = 0 ∧ RdP g A (rcS p a S) ∧ smW p a))))))
theorem ch_bad {m : Nat} {h h' : pmH} {z : Option Nat} {d : Bool} {o : Bool × aPic} {w p : aRow} {a : Nat} {S : aRs} {g : Nat → Int32} {A : Nat → Nat → Int32} {K v : Int32} (e : rcV p a S = K) (hK : ¬ K = 0) (hR : RfA h' m g A) (hs : Sm h h' m 17) (hb : RB g A o w p) (h28 : g 28 = K) (h33 : g 33 = nI a) : RetV (ChQ m h o w p a S) z (.inl (some (.int v))) (h', z, d) := by
  subst e
  exact retV ⟨g, A, hR, hs, hb, Or.inl ⟨hK, h28, h33⟩⟩
theorem rcV_fr {p : aRow} {a : Nat} {S : aRs} {K : Int32} (e : frV p a = K) (h : ¬ K = 0) : rcV p a S = K := by rw [rcV, e, if_pos h]
theorem RG.lo {g : Nat → Int32} {A : Nat → Nat → Int32} {S : aRs} {a b : Nat} {p : aRow} {v : Int32} (hG : RG g A S a) (hng : ¬ grW (fr p.1 (a + 4))) (hv : v = if ¬ S.2.2 11 = 0 then 1 else 0) (hab : a ≤ b) : RG (upd (upd g 27 (S.2.2 4 + 1)) 40 v) A (loS (S.1, S.2.1, frG p a S.2.2)) b := by
  have hne : ¬ fr p.1 (a + 4) = 1229209940 := fun q => hng (by rw [q]; decide)
  have hn : (if ¬ S.2.2 11 = 0 ∧ ¬ fr p.1 (a + 4) = 1229209940 then (1 : Int32) else 0) = v := by
    rw [hv]
    by_cases e : S.2.2 11 = 0
    · rw [if_neg (fun q => q.1 e), if_neg (fun q => q e)]
    · rw [if_pos ⟨e, hne⟩, if_pos e]
  unfold loS
  rw [if_neg (show ¬ grW (frG p a S.2.2 6) from hng)]
  refine ⟨hG.1, ⟨hG.2.1.1, hG.2.1.2.1, hG.2.1.2.2.1, hG.2.1.2.2.2.1, hn.symm⟩, hG.2.2.1, rfl, hG.2.2.2.2.1, hG.2.2.2.2.2.1, hG.2.2.2.2.2.2.1.le hab, fun q e => q ?_⟩
  show (if ¬ S.2.2 11 = 0 ∧ ¬ fr p.1 (a + 4) = 1229209940 then (1 : Int32) else 0) = 0
  rw [if_neg (fun x => x.1 e)]
theorem RG.nx {g : Nat → Int32} {A : Nat → Nat → Int32} {S : aRs} {b : Nat} {v : Int32} (hG : RG g A S b) (hv : v = if ¬ S.2.2 11 = 0 ∧ ¬ S.2.2 6 = 1229209940 then 1 else 0) : RG (upd g 40 v) A (nxS S) b := by
  refine ⟨hG.1, ⟨hG.2.1.1, hG.2.1.2.1, hG.2.1.2.2.1, hG.2.1.2.2.2.1, hv⟩, hG.2.2.1, hG.2.2.2.1, hG.2.2.2.2.1, hG.2.2.2.2.2.1, hG.2.2.2.2.2.2.1, fun q e => q ?_⟩
  show (if ¬ S.2.2 11 = 0 ∧ ¬ S.2.2 6 = 1229209940 then (1 : Int32) else 0) = 0
  exact if_neg (fun x => x.1 e)
theorem RG.en {g : Nat → Int32} {A : Nat → Nat → Int32} {S : aRs} {b : Nat} {f : Nat → Int32} (hG : RG g A S b) (h8 : ¬ S.2.2 8 = 0) (he : enOk S) (hf : SaR f (upS S.1.2 S.2.1) S.1.2.1) : RdP g (uA A 6 f) S := by
  obtain ⟨q1, q2, q3, q4⟩ := hG.hd h8
  exact ⟨⟨q2.1, hf, q2.2⟩, ⟨q3.1, q3.2.1, q3.2.2.1, fun x hx y hy u hu => by
    show smJ S.1.2 (upS S.1.2 S.2.1 _)
    rw [upS_at q3.1 hx hu]
    have q := (he.2 y hy).2.2 x hx u hu
    exact ⟨q.1, q.2.1, q.2.2.elim Or.inl fun q => Or.inr (Or.inr q.2)⟩, q3.2.2.2⟩, q1, hG.2.2.2.1⟩
theorem ch_go {m : Nat} {h h' : pmH} {z : Option Nat} {d : Bool} {o : Bool × aPic} {w p : aRow} {a : Nat} {S : aRs} {g : Nat → Int32} {A : Nat → Nat → Int32} {v : Int32} (e : rcV p a S = 0) (hx : ¬ fr p.1 (a + 4) = 1229278788) (hR : RfA h' m g A) (hs : Sm h h' m 17) (hb : RB g A o w p) (hG : RG g A (rcS p a S) (a + 12 + lnN p a)) (hv : v = if smW p a then 1 else 0) : RetV (ChQ m h o w p a S) z (.inl (some (.int v))) (h', z, d) := retV ⟨g, A, hR, hs, hb, Or.inr ⟨e, Or.inl ⟨hx, hG, hv⟩⟩⟩
theorem tkS_12 {p : aRow} {a l : Nat} {S : aRs} {x : Int32} (e : x = 1229209940) : (tkS p a l x S).2.2 12 = S.2.2 12 := by
  rw [tkS, if_pos e]
  rfl
theorem sm_iff {p : aRow} {a l : Nat} (hp : p.2 ≤ 2000) (hf : a + 12 + l ≤ p.2) (hl : l ≤ 255) (el : fr p.1 a = nI l) : smW p a ↔ fr p.1 (a + 8 + l) = wSum p (a + 4) (l + 4) := by
  have hln : lnN p a = l := by rw [lnN, el, nI_clamp (by omega)]
  unfold smW
  rw [hln, bN4_n (by omega) (by omega)]
set_option maxHeartbeats 4000000 in
theorem l_Ref_ch363 {E : pmEv} {h0 h : pmH} {z : Option Nat} {d : Bool} {m : Nat} {g : Nat → Int32} {A : Nat → Nat → Int32} {o : Bool × aPic} {w p : aRow} {S : aRs} {a : Nat} {S2 : aRs} {l : Nat} (hln : lnN p a = l) (hf : a + 12 + l ≤ p.2) {gi : Int32} (hv0 : rcV p a S = 0) (hsm : smW p a) (hS2 : rcS p a S = S2) (h8 : (fr p.1 (a + 4)) = 1229278788 → ¬ S2.2.2 8 = 0) (hR : RfA h m g A) (hs : Sm h0 h m 17) (hb : RB g A o w p) (hG : RG g A S2 (a + 12 + l)) (hp : p.2 ≤ 2000) : Go E (mRef_chunk, h0, 0, 0) 363 [some (.ref m), some (.int (nI a)), some (.int (nI l)), some (.int (fr p.1 (a + 4))), some (.int 0), some (.int (gi))] [] (h, z, d) 0 0 (RetV (ChQ m h0 o w p a S) z) := by
  refine go_aload_n dRef_chunk_363 rfl ?_
  refine go_aload_n dRef_chunk_364 rfl ?_
  refine go_getf dRef_chunk_365 qf_Ref_206 hR.1 rfl ?_
  refine go_top (y := 0) (by exact hG.1) ?_
  refine go_if_ne (tgt := 388) dRef_chunk_368 (fun cc => absurd rfl cc) (fun _ => ?_)
  refine go_iload_n dRef_chunk_371 rfl ?_
  refine go_ldc dRef_chunk_372 qc_Ref_195 ?_
  refine go_icmp_ne (tgt := 388) dRef_chunk_374 (fun c1 => ?_) (fun c1 => ?_)
  · refine go_iconst (v := 0) dRef_chunk_388 (by decide) ?_
    refine go_bipush (v := 8) dRef_chunk_389 (by decide) ?_
    refine go_iload_n dRef_chunk_391 rfl ?_
    refine go_virtP dRef_chunk_392 ok_mRef_breakBy im_mRef_breakBy se_mRef_breakBy qm_Ref_280 hR.1 (r_brk0 hR) ?_ (hnp := np_mRef_breakBy)
    refine go_iload_n dRef_chunk_395 rfl ?_
    refine go_ldc dRef_chunk_396 qc_Ref_195 ?_
    refine go_icmp_ne (tgt := 405) dRef_chunk_398 (fun c2 => ?_) (fun c2 => ?_)
    · refine go_iconst (v := 1) dRef_chunk_405 (by decide) ?_
      refine go_iret dRef_chunk_406 rfl rfl ?_ (Nat.le_of_ble_eq_true rfl) (Nat.le_of_ble_eq_true rfl)
      exact ch_go hv0 c1 hR hs hb (by rw [hS2, hln]; exact hG) (by rw [if_pos hsm])
    · exact absurd c2 c1
  · refine go_aload_n dRef_chunk_377 rfl ?_
    refine go_virtX dRef_chunk_378 ok_mRef_unpack im_mRef_unpack se_mRef_unpack qm_Ref_290 hR.1 (r_unpack (π := S2.1.2) (ρ := S2.2.1) (hG.hd (h8 c1)).2.1.1 (hG.hd (h8 c1)).2.1.2.2.1.1 (hG.hd (h8 c1)).2.2.1.2.1.1 (hG.hd (h8 c1)).2.2.1.1 (by have := hG.2.2.2.2.2.2.1.2.2; omega) hG.2.2.1.2.1 hG.2.2.1.2.2 hG.2.2.1.1 hR) (fun hx2 d2 q2 => ?_) (hnp := np_mRef_unpack)
    obtain ⟨f2, hR2, hF2, t2⟩ := q2
    have s2 := hs.trans t2
    refine go_ifne_b (tgt := 388) dRef_chunk_381 (fun c3 => ?_) (fun c3 => ?_)
    · refine go_iconst (v := 0) dRef_chunk_388 (by decide) ?_
      refine go_bipush (v := 8) dRef_chunk_389 (by decide) ?_
      refine go_iload_n dRef_chunk_391 rfl ?_
      refine go_virtP dRef_chunk_392 ok_mRef_breakBy im_mRef_breakBy se_mRef_breakBy qm_Ref_280 hR2.1 (r_brk0 hR2) ?_ (hnp := np_mRef_breakBy)
      refine go_iload_n dRef_chunk_395 rfl ?_
      refine go_ldc dRef_chunk_396 qc_Ref_195 ?_
      refine go_icmp_ne (tgt := 405) dRef_chunk_398 (fun c4 => ?_) (fun c4 => ?_)
      · exact absurd c1 c4
      · refine go_iconst (v := 2) dRef_chunk_401 (by decide) ?_
        refine go_goto (tgt := 406) dRef_chunk_402 ?_
        refine go_iret dRef_chunk_406 rfl rfl ?_ (Nat.le_of_ble_eq_true rfl) (Nat.le_of_ble_eq_true rfl)
        exact retV ⟨_, _, hR2, s2, hb, Or.inr ⟨hv0, Or.inr ⟨c1, rfl, Or.inr ⟨by rw [hS2]; exact c3, hG.1, by rw [hS2]; exact hG.en (h8 c1) c3 (hF2 c3), hsm⟩⟩⟩⟩
    · refine go_iconst (v := 1) dRef_chunk_384 (by decide) ?_
      refine go_goto (tgt := 389) dRef_chunk_385 ?_
      refine go_bipush (v := 8) dRef_chunk_389 (by decide) ?_
      refine go_iload_n dRef_chunk_391 rfl ?_
      refine go_virtX dRef_chunk_392 ok_mRef_breakBy im_mRef_breakBy se_mRef_breakBy qm_Ref_280 hR2.1 (r_brk1 (g := g) hG.1 hR2) (fun hx4 d4 q4 => ?_) (hnp := np_mRef_breakBy)
      obtain ⟨hR4, t4⟩ := q4
      have s4 := s2.trans t4
      refine go_iload_n dRef_chunk_395 rfl ?_
      refine go_ldc dRef_chunk_396 qc_Ref_195 ?_
      refine go_icmp_ne (tgt := 405) dRef_chunk_398 (fun c5 => ?_) (fun c5 => ?_)
      · exact absurd c1 c5
      · refine go_iconst (v := 2) dRef_chunk_401 (by decide) ?_
        refine go_goto (tgt := 406) dRef_chunk_402 ?_
        refine go_iret dRef_chunk_406 rfl rfl ?_ (Nat.le_of_ble_eq_true rfl) (Nat.le_of_ble_eq_true rfl)
        exact retV ⟨_, _, hR4, s4, hb, Or.inr ⟨hv0, Or.inr ⟨c1, rfl, Or.inl ⟨by rw [hS2]; exact c3, rfl, rfl⟩⟩⟩⟩
set_option maxHeartbeats 4000000 in
theorem l_Ref_chB334 {E : pmEv} {h0 h : pmH} {z : Option Nat} {d : Bool} {m : Nat} {g : Nat → Int32} {A : Nat → Nat → Int32} {o : Bool × aPic} {w p : aRow} {S : aRs} {a : Nat} {l : Nat} {gi K : Int32} (e : rcV p a S = K) (hK : ¬ K = 0) (hR : RfA h m g A) (hs : Sm h0 h m 17) (hb : RB g A o w p) (h28 : g 28 = K) (h33 : g 33 = nI a) : Go E (mRef_chunk, h0, 0, 0) 334 [some (.ref m), some (.int (nI a)), some (.int (nI l)), some (.int (fr p.1 (a + 4))), some (.int 0), some (.int (gi))] [] (h, z, d) 0 0 (RetV (ChQ m h0 o w p a S) z) := by
  refine go_aload_n dRef_chunk_334 rfl ?_
  refine go_aload_n dRef_chunk_335 rfl ?_
  refine go_getf dRef_chunk_336 qf_Ref_230 hR.1 rfl ?_
  refine go_if_ne (tgt := 355) dRef_chunk_339 (fun c1 => ?_) (fun c1 => ?_)
  · refine go_iconst (v := 1) dRef_chunk_355 (by decide) ?_
    refine go_goto (tgt := 360) dRef_chunk_356 ?_
    refine go_putf dRef_chunk_360 qf_Ref_230 pw_8_40 hR.1 rfl rfl ?_
    refine go_nm (fun hnk1 enk1 => ?_)
    have gsk1 : Sm h hnk1 m 17 := by rw [enk1]; exact (Sm.put' (Sm.refl _ _ _) _ (by omega) (by omega))
    have hRk1 : RfA hnk1 m (upd g 40 1) (A) := ⟨(congrFun enk1 m).trans (pmU_s _ _ _), (congrFun enk1 (m + 1)).trans ((pmU_n _ _ (by omega)).trans hR.2.1), (congrFun enk1 (m + 2)).trans ((pmU_n _ _ (by omega)).trans hR.2.2.1), (congrFun enk1 (m + 3)).trans ((pmU_n _ _ (by omega)).trans hR.2.2.2.1), (congrFun enk1 (m + 4)).trans ((pmU_n _ _ (by omega)).trans hR.2.2.2.2.1), (congrFun enk1 (m + 5)).trans ((pmU_n _ _ (by omega)).trans hR.2.2.2.2.2.1), (congrFun enk1 (m + 6)).trans ((pmU_n _ _ (by omega)).trans hR.2.2.2.2.2.2.1), (congrFun enk1 (m + 7)).trans ((pmU_n _ _ (by omega)).trans hR.2.2.2.2.2.2.2.1), (congrFun enk1 (m + 8)).trans ((pmU_n _ _ (by omega)).trans hR.2.2.2.2.2.2.2.2.1), (congrFun enk1 (m + 9)).trans ((pmU_n _ _ (by omega)).trans hR.2.2.2.2.2.2.2.2.2.1), (congrFun enk1 (m + 10)).trans ((pmU_n _ _ (by omega)).trans hR.2.2.2.2.2.2.2.2.2.2.1), (congrFun enk1 (m + 11)).trans ((pmU_n _ _ (by omega)).trans hR.2.2.2.2.2.2.2.2.2.2.2.1), (congrFun enk1 (m + 12)).trans ((pmU_n _ _ (by omega)).trans hR.2.2.2.2.2.2.2.2.2.2.2.2.1), (congrFun enk1 (m + 13)).trans ((pmU_n _ _ (by omega)).trans hR.2.2.2.2.2.2.2.2.2.2.2.2.2.1), (congrFun enk1 (m + 14)).trans ((pmU_n _ _ (by omega)).trans hR.2.2.2.2.2.2.2.2.2.2.2.2.2.2.1), (congrFun enk1 (m + 15)).trans ((pmU_n _ _ (by omega)).trans hR.2.2.2.2.2.2.2.2.2.2.2.2.2.2.2.1), (congrFun enk1 (m + 16)).trans ((pmU_n _ _ (by omega)).trans hR.2.2.2.2.2.2.2.2.2.2.2.2.2.2.2.2)⟩
    have sk1 := hs.trans gsk1
    refine go_aload_n dRef_chunk_363 rfl ?_
    refine go_aload_n dRef_chunk_364 rfl ?_
    refine go_getf dRef_chunk_365 qf_Ref_206 hRk1.1 rfl ?_
    refine go_if_ne (tgt := 388) dRef_chunk_368 (fun c2 => ?_) (fun c2 => ?_)
    · refine go_iconst (v := 0) dRef_chunk_388 (by decide) ?_
      refine go_bipush (v := 8) dRef_chunk_389 (by decide) ?_
      refine go_iload_n dRef_chunk_391 rfl ?_
      refine go_virtP dRef_chunk_392 ok_mRef_breakBy im_mRef_breakBy se_mRef_breakBy qm_Ref_280 hRk1.1 (r_brk0 hRk1) ?_ (hnp := np_mRef_breakBy)
      refine go_iload_n dRef_chunk_395 rfl ?_
      refine go_ldc dRef_chunk_396 qc_Ref_195 ?_
      refine go_icmp_ne (tgt := 405) dRef_chunk_398 (fun c3 => ?_) (fun c3 => ?_)
      · refine go_iconst (v := 1) dRef_chunk_405 (by decide) ?_
        refine go_iret dRef_chunk_406 rfl rfl ?_ (Nat.le_of_ble_eq_true rfl) (Nat.le_of_ble_eq_true rfl)
        exact ch_bad e hK hRk1 sk1 hb h28 h33
      · refine go_iconst (v := 2) dRef_chunk_401 (by decide) ?_
        refine go_goto (tgt := 406) dRef_chunk_402 ?_
        refine go_iret dRef_chunk_406 rfl rfl ?_ (Nat.le_of_ble_eq_true rfl) (Nat.le_of_ble_eq_true rfl)
        exact ch_bad e hK hRk1 sk1 hb h28 h33
    · exact absurd (h28.symm.trans c2) hK
  · refine go_aload_n dRef_chunk_342 rfl ?_
    refine go_getf dRef_chunk_343 qf_Ref_218 hR.1 rfl ?_
    refine go_if_eq (tgt := 359) dRef_chunk_346 (fun c2 => ?_) (fun c2 => ?_)
    · refine go_iconst (v := 0) dRef_chunk_359 (by decide) ?_
      refine go_putf dRef_chunk_360 qf_Ref_230 pw_8_40 hR.1 rfl rfl ?_
      refine go_nm (fun hnk2 enk2 => ?_)
      have gsk2 : Sm h hnk2 m 17 := by rw [enk2]; exact (Sm.put' (Sm.refl _ _ _) _ (by omega) (by omega))
      have hRk2 : RfA hnk2 m (upd g 40 0) (A) := ⟨(congrFun enk2 m).trans (pmU_s _ _ _), (congrFun enk2 (m + 1)).trans ((pmU_n _ _ (by omega)).trans hR.2.1), (congrFun enk2 (m + 2)).trans ((pmU_n _ _ (by omega)).trans hR.2.2.1), (congrFun enk2 (m + 3)).trans ((pmU_n _ _ (by omega)).trans hR.2.2.2.1), (congrFun enk2 (m + 4)).trans ((pmU_n _ _ (by omega)).trans hR.2.2.2.2.1), (congrFun enk2 (m + 5)).trans ((pmU_n _ _ (by omega)).trans hR.2.2.2.2.2.1), (congrFun enk2 (m + 6)).trans ((pmU_n _ _ (by omega)).trans hR.2.2.2.2.2.2.1), (congrFun enk2 (m + 7)).trans ((pmU_n _ _ (by omega)).trans hR.2.2.2.2.2.2.2.1), (congrFun enk2 (m + 8)).trans ((pmU_n _ _ (by omega)).trans hR.2.2.2.2.2.2.2.2.1), (congrFun enk2 (m + 9)).trans ((pmU_n _ _ (by omega)).trans hR.2.2.2.2.2.2.2.2.2.1), (congrFun enk2 (m + 10)).trans ((pmU_n _ _ (by omega)).trans hR.2.2.2.2.2.2.2.2.2.2.1), (congrFun enk2 (m + 11)).trans ((pmU_n _ _ (by omega)).trans hR.2.2.2.2.2.2.2.2.2.2.2.1), (congrFun enk2 (m + 12)).trans ((pmU_n _ _ (by omega)).trans hR.2.2.2.2.2.2.2.2.2.2.2.2.1), (congrFun enk2 (m + 13)).trans ((pmU_n _ _ (by omega)).trans hR.2.2.2.2.2.2.2.2.2.2.2.2.2.1), (congrFun enk2 (m + 14)).trans ((pmU_n _ _ (by omega)).trans hR.2.2.2.2.2.2.2.2.2.2.2.2.2.2.1), (congrFun enk2 (m + 15)).trans ((pmU_n _ _ (by omega)).trans hR.2.2.2.2.2.2.2.2.2.2.2.2.2.2.2.1), (congrFun enk2 (m + 16)).trans ((pmU_n _ _ (by omega)).trans hR.2.2.2.2.2.2.2.2.2.2.2.2.2.2.2.2)⟩
      have sk2 := hs.trans gsk2
      refine go_aload_n dRef_chunk_363 rfl ?_
      refine go_aload_n dRef_chunk_364 rfl ?_
      refine go_getf dRef_chunk_365 qf_Ref_206 hRk2.1 rfl ?_
      refine go_if_ne (tgt := 388) dRef_chunk_368 (fun c3 => ?_) (fun c3 => ?_)
      · refine go_iconst (v := 0) dRef_chunk_388 (by decide) ?_
        refine go_bipush (v := 8) dRef_chunk_389 (by decide) ?_
        refine go_iload_n dRef_chunk_391 rfl ?_
        refine go_virtP dRef_chunk_392 ok_mRef_breakBy im_mRef_breakBy se_mRef_breakBy qm_Ref_280 hRk2.1 (r_brk0 hRk2) ?_ (hnp := np_mRef_breakBy)
        refine go_iload_n dRef_chunk_395 rfl ?_
        refine go_ldc dRef_chunk_396 qc_Ref_195 ?_
        refine go_icmp_ne (tgt := 405) dRef_chunk_398 (fun c4 => ?_) (fun c4 => ?_)
        · refine go_iconst (v := 1) dRef_chunk_405 (by decide) ?_
          refine go_iret dRef_chunk_406 rfl rfl ?_ (Nat.le_of_ble_eq_true rfl) (Nat.le_of_ble_eq_true rfl)
          exact ch_bad e hK hRk2 sk2 hb h28 h33
        · refine go_iconst (v := 2) dRef_chunk_401 (by decide) ?_
          refine go_goto (tgt := 406) dRef_chunk_402 ?_
          refine go_iret dRef_chunk_406 rfl rfl ?_ (Nat.le_of_ble_eq_true rfl) (Nat.le_of_ble_eq_true rfl)
          exact ch_bad e hK hRk2 sk2 hb h28 h33
      · exact absurd (h28.symm.trans c3) hK
    · refine go_iload_n dRef_chunk_349 rfl ?_
      refine go_ldc dRef_chunk_350 qc_Ref_178 ?_
      refine go_icmp_eq (tgt := 359) dRef_chunk_352 (fun c3 => ?_) (fun c3 => ?_)
      · refine go_iconst (v := 0) dRef_chunk_359 (by decide) ?_
        refine go_putf dRef_chunk_360 qf_Ref_230 pw_8_40 hR.1 rfl rfl ?_
        refine go_nm (fun hnk3 enk3 => ?_)
        have gsk3 : Sm h hnk3 m 17 := by rw [enk3]; exact (Sm.put' (Sm.refl _ _ _) _ (by omega) (by omega))
        have hRk3 : RfA hnk3 m (upd g 40 0) (A) := ⟨(congrFun enk3 m).trans (pmU_s _ _ _), (congrFun enk3 (m + 1)).trans ((pmU_n _ _ (by omega)).trans hR.2.1), (congrFun enk3 (m + 2)).trans ((pmU_n _ _ (by omega)).trans hR.2.2.1), (congrFun enk3 (m + 3)).trans ((pmU_n _ _ (by omega)).trans hR.2.2.2.1), (congrFun enk3 (m + 4)).trans ((pmU_n _ _ (by omega)).trans hR.2.2.2.2.1), (congrFun enk3 (m + 5)).trans ((pmU_n _ _ (by omega)).trans hR.2.2.2.2.2.1), (congrFun enk3 (m + 6)).trans ((pmU_n _ _ (by omega)).trans hR.2.2.2.2.2.2.1), (congrFun enk3 (m + 7)).trans ((pmU_n _ _ (by omega)).trans hR.2.2.2.2.2.2.2.1), (congrFun enk3 (m + 8)).trans ((pmU_n _ _ (by omega)).trans hR.2.2.2.2.2.2.2.2.1), (congrFun enk3 (m + 9)).trans ((pmU_n _ _ (by omega)).trans hR.2.2.2.2.2.2.2.2.2.1), (congrFun enk3 (m + 10)).trans ((pmU_n _ _ (by omega)).trans hR.2.2.2.2.2.2.2.2.2.2.1), (congrFun enk3 (m + 11)).trans ((pmU_n _ _ (by omega)).trans hR.2.2.2.2.2.2.2.2.2.2.2.1), (congrFun enk3 (m + 12)).trans ((pmU_n _ _ (by omega)).trans hR.2.2.2.2.2.2.2.2.2.2.2.2.1), (congrFun enk3 (m + 13)).trans ((pmU_n _ _ (by omega)).trans hR.2.2.2.2.2.2.2.2.2.2.2.2.2.1), (congrFun enk3 (m + 14)).trans ((pmU_n _ _ (by omega)).trans hR.2.2.2.2.2.2.2.2.2.2.2.2.2.2.1), (congrFun enk3 (m + 15)).trans ((pmU_n _ _ (by omega)).trans hR.2.2.2.2.2.2.2.2.2.2.2.2.2.2.2.1), (congrFun enk3 (m + 16)).trans ((pmU_n _ _ (by omega)).trans hR.2.2.2.2.2.2.2.2.2.2.2.2.2.2.2.2)⟩
        have sk3 := hs.trans gsk3
        refine go_aload_n dRef_chunk_363 rfl ?_
        refine go_aload_n dRef_chunk_364 rfl ?_
        refine go_getf dRef_chunk_365 qf_Ref_206 hRk3.1 rfl ?_
        refine go_if_ne (tgt := 388) dRef_chunk_368 (fun c4 => ?_) (fun c4 => ?_)
        · refine go_iconst (v := 0) dRef_chunk_388 (by decide) ?_
          refine go_bipush (v := 8) dRef_chunk_389 (by decide) ?_
          refine go_iload_n dRef_chunk_391 rfl ?_
          refine go_virtP dRef_chunk_392 ok_mRef_breakBy im_mRef_breakBy se_mRef_breakBy qm_Ref_280 hRk3.1 (r_brk0 hRk3) ?_ (hnp := np_mRef_breakBy)
          refine go_iload_n dRef_chunk_395 rfl ?_
          refine go_ldc dRef_chunk_396 qc_Ref_195 ?_
          refine go_icmp_ne (tgt := 405) dRef_chunk_398 (fun c5 => ?_) (fun c5 => ?_)
          · refine go_iconst (v := 1) dRef_chunk_405 (by decide) ?_
            refine go_iret dRef_chunk_406 rfl rfl ?_ (Nat.le_of_ble_eq_true rfl) (Nat.le_of_ble_eq_true rfl)
            exact ch_bad e hK hRk3 sk3 hb h28 h33
          · refine go_iconst (v := 2) dRef_chunk_401 (by decide) ?_
            refine go_goto (tgt := 406) dRef_chunk_402 ?_
            refine go_iret dRef_chunk_406 rfl rfl ?_ (Nat.le_of_ble_eq_true rfl) (Nat.le_of_ble_eq_true rfl)
            exact ch_bad e hK hRk3 sk3 hb h28 h33
        · exact absurd (h28.symm.trans c4) hK
      · refine go_iconst (v := 1) dRef_chunk_355 (by decide) ?_
        refine go_goto (tgt := 360) dRef_chunk_356 ?_
        refine go_putf dRef_chunk_360 qf_Ref_230 pw_8_40 hR.1 rfl rfl ?_
        refine go_nm (fun hnk4 enk4 => ?_)
        have gsk4 : Sm h hnk4 m 17 := by rw [enk4]; exact (Sm.put' (Sm.refl _ _ _) _ (by omega) (by omega))
        have hRk4 : RfA hnk4 m (upd g 40 1) (A) := ⟨(congrFun enk4 m).trans (pmU_s _ _ _), (congrFun enk4 (m + 1)).trans ((pmU_n _ _ (by omega)).trans hR.2.1), (congrFun enk4 (m + 2)).trans ((pmU_n _ _ (by omega)).trans hR.2.2.1), (congrFun enk4 (m + 3)).trans ((pmU_n _ _ (by omega)).trans hR.2.2.2.1), (congrFun enk4 (m + 4)).trans ((pmU_n _ _ (by omega)).trans hR.2.2.2.2.1), (congrFun enk4 (m + 5)).trans ((pmU_n _ _ (by omega)).trans hR.2.2.2.2.2.1), (congrFun enk4 (m + 6)).trans ((pmU_n _ _ (by omega)).trans hR.2.2.2.2.2.2.1), (congrFun enk4 (m + 7)).trans ((pmU_n _ _ (by omega)).trans hR.2.2.2.2.2.2.2.1), (congrFun enk4 (m + 8)).trans ((pmU_n _ _ (by omega)).trans hR.2.2.2.2.2.2.2.2.1), (congrFun enk4 (m + 9)).trans ((pmU_n _ _ (by omega)).trans hR.2.2.2.2.2.2.2.2.2.1), (congrFun enk4 (m + 10)).trans ((pmU_n _ _ (by omega)).trans hR.2.2.2.2.2.2.2.2.2.2.1), (congrFun enk4 (m + 11)).trans ((pmU_n _ _ (by omega)).trans hR.2.2.2.2.2.2.2.2.2.2.2.1), (congrFun enk4 (m + 12)).trans ((pmU_n _ _ (by omega)).trans hR.2.2.2.2.2.2.2.2.2.2.2.2.1), (congrFun enk4 (m + 13)).trans ((pmU_n _ _ (by omega)).trans hR.2.2.2.2.2.2.2.2.2.2.2.2.2.1), (congrFun enk4 (m + 14)).trans ((pmU_n _ _ (by omega)).trans hR.2.2.2.2.2.2.2.2.2.2.2.2.2.2.1), (congrFun enk4 (m + 15)).trans ((pmU_n _ _ (by omega)).trans hR.2.2.2.2.2.2.2.2.2.2.2.2.2.2.2.1), (congrFun enk4 (m + 16)).trans ((pmU_n _ _ (by omega)).trans hR.2.2.2.2.2.2.2.2.2.2.2.2.2.2.2.2)⟩
        have sk4 := hs.trans gsk4
        refine go_aload_n dRef_chunk_363 rfl ?_
        refine go_aload_n dRef_chunk_364 rfl ?_
        refine go_getf dRef_chunk_365 qf_Ref_206 hRk4.1 rfl ?_
        refine go_if_ne (tgt := 388) dRef_chunk_368 (fun c4 => ?_) (fun c4 => ?_)
        · refine go_iconst (v := 0) dRef_chunk_388 (by decide) ?_
          refine go_bipush (v := 8) dRef_chunk_389 (by decide) ?_
          refine go_iload_n dRef_chunk_391 rfl ?_
          refine go_virtP dRef_chunk_392 ok_mRef_breakBy im_mRef_breakBy se_mRef_breakBy qm_Ref_280 hRk4.1 (r_brk0 hRk4) ?_ (hnp := np_mRef_breakBy)
          refine go_iload_n dRef_chunk_395 rfl ?_
          refine go_ldc dRef_chunk_396 qc_Ref_195 ?_
          refine go_icmp_ne (tgt := 405) dRef_chunk_398 (fun c5 => ?_) (fun c5 => ?_)
          · refine go_iconst (v := 1) dRef_chunk_405 (by decide) ?_
            refine go_iret dRef_chunk_406 rfl rfl ?_ (Nat.le_of_ble_eq_true rfl) (Nat.le_of_ble_eq_true rfl)
            exact ch_bad e hK hRk4 sk4 hb h28 h33
          · refine go_iconst (v := 2) dRef_chunk_401 (by decide) ?_
            refine go_goto (tgt := 406) dRef_chunk_402 ?_
            refine go_iret dRef_chunk_406 rfl rfl ?_ (Nat.le_of_ble_eq_true rfl) (Nat.le_of_ble_eq_true rfl)
            exact ch_bad e hK hRk4 sk4 hb h28 h33
        · exact absurd (h28.symm.trans c4) hK
set_option maxHeartbeats 4000000 in
theorem l_Ref_ch302 {E : pmEv} {h0 h : pmH} {z : Option Nat} {d : Bool} {m : Nat} {g : Nat → Int32} {A : Nat → Nat → Int32} {o : Bool × aPic} {w p : aRow} {S : aRs} {a : Nat} {l : Nat} (hln : lnN p a = l) (hf : a + 12 + l ≤ p.2) {gi : Int32} (hF : frV p a = 0) (hsm : smW p a) (el : fr p.1 a = nI l) (hl : l ≤ 255) (hx : letsOk (fr p.1 (a + 4))) (hO : ¬ ordW (frG p a S.2.2) S.1.2) (hU : ¬ unkW (fr p.1 (a + 4))) (hR : RfA h m g A) (hs : Sm h0 h m 17) (hb : RB g A o w p) (hG : RG g A S a) (hp : p.2 ≤ 2000) (hB : AllB p) : Go E (mRef_chunk, h0, 0, 0) 302 [some (.ref m), some (.int (nI a)), some (.int (nI l)), some (.int (fr p.1 (a + 4))), some (.int 0), some (.int (gi))] [] (h, z, d) 0 0 (RetV (ChQ m h0 o w p a S) z) := by
  refine go_aload_n dRef_chunk_302 rfl ?_
  refine go_aload_n dRef_chunk_303 rfl ?_
  refine go_getf dRef_chunk_304 qf_Ref_206 hR.1 rfl ?_
  refine go_top (y := 0) (by exact hG.1) ?_
  refine go_if_ne (tgt := 327) dRef_chunk_307 (fun cc => absurd rfl cc) (fun _ => ?_)
  refine go_aload_n dRef_chunk_310 rfl ?_
  refine go_iload_n dRef_chunk_311 rfl ?_
  refine go_iload_n dRef_chunk_312 rfl ?_
  refine go_bipush (v := 8) dRef_chunk_313 (by decide) ?_
  refine go_iadd dRef_chunk_315 ?_
  refine go_top (y := nI (a + 8)) (by exact nI_a8 _) ?_
  refine go_iload_n dRef_chunk_316 rfl ?_
  refine go_virtX dRef_chunk_317 ok_mRef_takes im_mRef_takes se_mRef_takes qm_Ref_287 hR.1 (r_takes (S := (S.1, S.2.1, frG p a S.2.2)) (x := (fr p.1 (a + 4))) hO el rfl hU hx hR hb hG hp hB hl hf) (fun hx1 d1 q1 => ?_) (hnp := np_mRef_takes)
  obtain ⟨g9, A9, hR9, t9, hb9, h289, hG9⟩ := q1
  have s9 := hs.trans t9
  refine go_ifne_b (tgt := 327) dRef_chunk_320 (fun c2 => ?_) (fun c2 => ?_)
  · refine go_iconst (v := 0) dRef_chunk_327 (by decide) ?_
    refine go_bipush (v := 7) dRef_chunk_328 (by decide) ?_
    refine go_iload_n dRef_chunk_330 rfl ?_
    refine go_virtP dRef_chunk_331 ok_mRef_breakBy im_mRef_breakBy se_mRef_breakBy qm_Ref_280 hR9.1 (r_brk0 hR9) ?_ (hnp := np_mRef_breakBy)
    have hG9 := hG9 c2
    have hv0 : rcV p a S = 0 := by rw [rcV, if_neg (fun q => q hF), if_neg (fun q => q hsm), if_neg hO, if_neg hU, if_pos (by rw [hln]; exact c2)]
    have hS2 : rcS p a S = nxS (tkS p a l (fr p.1 (a + 4)) (S.1, S.2.1, frG p a S.2.2)) := by rw [rcS, if_neg (fun q => q hsm), hln]
    have h69 : (tkS p a l (fr p.1 (a + 4)) (S.1, S.2.1, frG p a S.2.2)).2.2 6 = (fr p.1 (a + 4)) := tkS_g (by omega)
    have hne : ¬ (tkS p a l (fr p.1 (a + 4)) (S.1, S.2.1, frG p a S.2.2)).2.2 12 = 0 → ¬ (tkS p a l (fr p.1 (a + 4)) (S.1, S.2.1, frG p a S.2.2)).2.2 6 = 1229209940 := fun q e => q (by
      have e2 := h69.symm.trans e
      rw [tkS_12 e2]
      refine Decidable.not_not.mp fun q2 => hO ?_
      have h8 := ord_h8 (S := (S.1, S.2.1, frG p a S.2.2)) (x := (fr p.1 (a + 4))) hO rfl (fun q3 => absurd (e2.symm.trans q3) (by decide))
      rw [ordW, if_neg h8, if_pos (show frG p a S.2.2 6 = 1229209940 from e2)]
      exact Or.inl q2)
    have h8 : (fr p.1 (a + 4)) = 1229278788 → ¬ (nxS (tkS p a l (fr p.1 (a + 4)) (S.1, S.2.1, frG p a S.2.2))).2.2 8 = 0 := fun e => by
      have h8 := ord_h8 (S := (S.1, S.2.1, frG p a S.2.2)) (x := (fr p.1 (a + 4))) hO rfl (fun q3 => absurd (e.symm.trans q3) (by decide))
      have e2 : (tkS p a l (fr p.1 (a + 4)) (S.1, S.2.1, frG p a S.2.2)) = (S.1, S.2.1, frG p a S.2.2) := by rw [tkS, if_neg (fun q => absurd (e.symm.trans q) (by decide)), if_pos e]
      rw [e2]
      exact h8
    refine go_aload_n dRef_chunk_334 rfl ?_
    refine go_aload_n dRef_chunk_335 rfl ?_
    refine go_getf dRef_chunk_336 qf_Ref_230 hR9.1 rfl ?_
    refine go_top (y := (tkS p a l (fr p.1 (a + 4)) (S.1, S.2.1, frG p a S.2.2)).2.2 12) (by exact hG9.2.1.2.2.2.2) ?_
    refine go_if_ne (tgt := 355) dRef_chunk_339 (fun c3 => ?_) (fun c3 => ?_)
    · refine go_iconst (v := 1) dRef_chunk_355 (by decide) ?_
      refine go_goto (tgt := 360) dRef_chunk_356 ?_
      refine go_putf dRef_chunk_360 qf_Ref_230 pw_8_40 hR9.1 rfl rfl ?_
      refine go_nm (fun hnk1 enk1 => ?_)
      have gsk1 : Sm hx1 hnk1 m 17 := by rw [enk1]; exact (Sm.put' (Sm.refl _ _ _) _ (by omega) (by omega))
      have hRk1 : RfA hnk1 m (upd g9 40 1) (A9) := ⟨(congrFun enk1 m).trans (pmU_s _ _ _), (congrFun enk1 (m + 1)).trans ((pmU_n _ _ (by omega)).trans hR9.2.1), (congrFun enk1 (m + 2)).trans ((pmU_n _ _ (by omega)).trans hR9.2.2.1), (congrFun enk1 (m + 3)).trans ((pmU_n _ _ (by omega)).trans hR9.2.2.2.1), (congrFun enk1 (m + 4)).trans ((pmU_n _ _ (by omega)).trans hR9.2.2.2.2.1), (congrFun enk1 (m + 5)).trans ((pmU_n _ _ (by omega)).trans hR9.2.2.2.2.2.1), (congrFun enk1 (m + 6)).trans ((pmU_n _ _ (by omega)).trans hR9.2.2.2.2.2.2.1), (congrFun enk1 (m + 7)).trans ((pmU_n _ _ (by omega)).trans hR9.2.2.2.2.2.2.2.1), (congrFun enk1 (m + 8)).trans ((pmU_n _ _ (by omega)).trans hR9.2.2.2.2.2.2.2.2.1), (congrFun enk1 (m + 9)).trans ((pmU_n _ _ (by omega)).trans hR9.2.2.2.2.2.2.2.2.2.1), (congrFun enk1 (m + 10)).trans ((pmU_n _ _ (by omega)).trans hR9.2.2.2.2.2.2.2.2.2.2.1), (congrFun enk1 (m + 11)).trans ((pmU_n _ _ (by omega)).trans hR9.2.2.2.2.2.2.2.2.2.2.2.1), (congrFun enk1 (m + 12)).trans ((pmU_n _ _ (by omega)).trans hR9.2.2.2.2.2.2.2.2.2.2.2.2.1), (congrFun enk1 (m + 13)).trans ((pmU_n _ _ (by omega)).trans hR9.2.2.2.2.2.2.2.2.2.2.2.2.2.1), (congrFun enk1 (m + 14)).trans ((pmU_n _ _ (by omega)).trans hR9.2.2.2.2.2.2.2.2.2.2.2.2.2.2.1), (congrFun enk1 (m + 15)).trans ((pmU_n _ _ (by omega)).trans hR9.2.2.2.2.2.2.2.2.2.2.2.2.2.2.2.1), (congrFun enk1 (m + 16)).trans ((pmU_n _ _ (by omega)).trans hR9.2.2.2.2.2.2.2.2.2.2.2.2.2.2.2.2)⟩
      have sk1 := s9.trans gsk1
      exact l_Ref_ch363 hln hf hv0 hsm hS2 h8 hRk1 sk1 hb9 (RG.nx hG9 (by rw [if_pos ⟨hG9.2.2.2.2.2.2.2 c3, hne c3⟩])) hp
    · refine go_aload_n dRef_chunk_342 rfl ?_
      refine go_getf dRef_chunk_343 qf_Ref_218 hR9.1 rfl ?_
      refine go_top (y := (tkS p a l (fr p.1 (a + 4)) (S.1, S.2.1, frG p a S.2.2)).2.2 11) (by exact hG9.2.1.2.2.2.1) ?_
      refine go_if_eq (tgt := 359) dRef_chunk_346 (fun c4 => ?_) (fun c4 => ?_)
      · refine go_iconst (v := 0) dRef_chunk_359 (by decide) ?_
        refine go_putf dRef_chunk_360 qf_Ref_230 pw_8_40 hR9.1 rfl rfl ?_
        refine go_nm (fun hnk2 enk2 => ?_)
        have gsk2 : Sm hx1 hnk2 m 17 := by rw [enk2]; exact (Sm.put' (Sm.refl _ _ _) _ (by omega) (by omega))
        have hRk2 : RfA hnk2 m (upd g9 40 0) (A9) := ⟨(congrFun enk2 m).trans (pmU_s _ _ _), (congrFun enk2 (m + 1)).trans ((pmU_n _ _ (by omega)).trans hR9.2.1), (congrFun enk2 (m + 2)).trans ((pmU_n _ _ (by omega)).trans hR9.2.2.1), (congrFun enk2 (m + 3)).trans ((pmU_n _ _ (by omega)).trans hR9.2.2.2.1), (congrFun enk2 (m + 4)).trans ((pmU_n _ _ (by omega)).trans hR9.2.2.2.2.1), (congrFun enk2 (m + 5)).trans ((pmU_n _ _ (by omega)).trans hR9.2.2.2.2.2.1), (congrFun enk2 (m + 6)).trans ((pmU_n _ _ (by omega)).trans hR9.2.2.2.2.2.2.1), (congrFun enk2 (m + 7)).trans ((pmU_n _ _ (by omega)).trans hR9.2.2.2.2.2.2.2.1), (congrFun enk2 (m + 8)).trans ((pmU_n _ _ (by omega)).trans hR9.2.2.2.2.2.2.2.2.1), (congrFun enk2 (m + 9)).trans ((pmU_n _ _ (by omega)).trans hR9.2.2.2.2.2.2.2.2.2.1), (congrFun enk2 (m + 10)).trans ((pmU_n _ _ (by omega)).trans hR9.2.2.2.2.2.2.2.2.2.2.1), (congrFun enk2 (m + 11)).trans ((pmU_n _ _ (by omega)).trans hR9.2.2.2.2.2.2.2.2.2.2.2.1), (congrFun enk2 (m + 12)).trans ((pmU_n _ _ (by omega)).trans hR9.2.2.2.2.2.2.2.2.2.2.2.2.1), (congrFun enk2 (m + 13)).trans ((pmU_n _ _ (by omega)).trans hR9.2.2.2.2.2.2.2.2.2.2.2.2.2.1), (congrFun enk2 (m + 14)).trans ((pmU_n _ _ (by omega)).trans hR9.2.2.2.2.2.2.2.2.2.2.2.2.2.2.1), (congrFun enk2 (m + 15)).trans ((pmU_n _ _ (by omega)).trans hR9.2.2.2.2.2.2.2.2.2.2.2.2.2.2.2.1), (congrFun enk2 (m + 16)).trans ((pmU_n _ _ (by omega)).trans hR9.2.2.2.2.2.2.2.2.2.2.2.2.2.2.2.2)⟩
        have sk2 := s9.trans gsk2
        exact l_Ref_ch363 hln hf hv0 hsm hS2 h8 hRk2 sk2 hb9 (RG.nx hG9 (by rw [if_neg (fun q => q.1 c4)])) hp
      · refine go_iload_n dRef_chunk_349 rfl ?_
        refine go_ldc dRef_chunk_350 qc_Ref_178 ?_
        refine go_icmp_eq (tgt := 359) dRef_chunk_352 (fun c5 => ?_) (fun c5 => ?_)
        · refine go_iconst (v := 0) dRef_chunk_359 (by decide) ?_
          refine go_putf dRef_chunk_360 qf_Ref_230 pw_8_40 hR9.1 rfl rfl ?_
          refine go_nm (fun hnk3 enk3 => ?_)
          have gsk3 : Sm hx1 hnk3 m 17 := by rw [enk3]; exact (Sm.put' (Sm.refl _ _ _) _ (by omega) (by omega))
          have hRk3 : RfA hnk3 m (upd g9 40 0) (A9) := ⟨(congrFun enk3 m).trans (pmU_s _ _ _), (congrFun enk3 (m + 1)).trans ((pmU_n _ _ (by omega)).trans hR9.2.1), (congrFun enk3 (m + 2)).trans ((pmU_n _ _ (by omega)).trans hR9.2.2.1), (congrFun enk3 (m + 3)).trans ((pmU_n _ _ (by omega)).trans hR9.2.2.2.1), (congrFun enk3 (m + 4)).trans ((pmU_n _ _ (by omega)).trans hR9.2.2.2.2.1), (congrFun enk3 (m + 5)).trans ((pmU_n _ _ (by omega)).trans hR9.2.2.2.2.2.1), (congrFun enk3 (m + 6)).trans ((pmU_n _ _ (by omega)).trans hR9.2.2.2.2.2.2.1), (congrFun enk3 (m + 7)).trans ((pmU_n _ _ (by omega)).trans hR9.2.2.2.2.2.2.2.1), (congrFun enk3 (m + 8)).trans ((pmU_n _ _ (by omega)).trans hR9.2.2.2.2.2.2.2.2.1), (congrFun enk3 (m + 9)).trans ((pmU_n _ _ (by omega)).trans hR9.2.2.2.2.2.2.2.2.2.1), (congrFun enk3 (m + 10)).trans ((pmU_n _ _ (by omega)).trans hR9.2.2.2.2.2.2.2.2.2.2.1), (congrFun enk3 (m + 11)).trans ((pmU_n _ _ (by omega)).trans hR9.2.2.2.2.2.2.2.2.2.2.2.1), (congrFun enk3 (m + 12)).trans ((pmU_n _ _ (by omega)).trans hR9.2.2.2.2.2.2.2.2.2.2.2.2.1), (congrFun enk3 (m + 13)).trans ((pmU_n _ _ (by omega)).trans hR9.2.2.2.2.2.2.2.2.2.2.2.2.2.1), (congrFun enk3 (m + 14)).trans ((pmU_n _ _ (by omega)).trans hR9.2.2.2.2.2.2.2.2.2.2.2.2.2.2.1), (congrFun enk3 (m + 15)).trans ((pmU_n _ _ (by omega)).trans hR9.2.2.2.2.2.2.2.2.2.2.2.2.2.2.2.1), (congrFun enk3 (m + 16)).trans ((pmU_n _ _ (by omega)).trans hR9.2.2.2.2.2.2.2.2.2.2.2.2.2.2.2.2)⟩
          have sk3 := s9.trans gsk3
          exact l_Ref_ch363 hln hf hv0 hsm hS2 h8 hRk3 sk3 hb9 (RG.nx hG9 (by rw [if_neg (fun q => q.2 (h69.trans c5))])) hp
        · refine go_iconst (v := 1) dRef_chunk_355 (by decide) ?_
          refine go_goto (tgt := 360) dRef_chunk_356 ?_
          refine go_putf dRef_chunk_360 qf_Ref_230 pw_8_40 hR9.1 rfl rfl ?_
          refine go_nm (fun hnk4 enk4 => ?_)
          have gsk4 : Sm hx1 hnk4 m 17 := by rw [enk4]; exact (Sm.put' (Sm.refl _ _ _) _ (by omega) (by omega))
          have hRk4 : RfA hnk4 m (upd g9 40 1) (A9) := ⟨(congrFun enk4 m).trans (pmU_s _ _ _), (congrFun enk4 (m + 1)).trans ((pmU_n _ _ (by omega)).trans hR9.2.1), (congrFun enk4 (m + 2)).trans ((pmU_n _ _ (by omega)).trans hR9.2.2.1), (congrFun enk4 (m + 3)).trans ((pmU_n _ _ (by omega)).trans hR9.2.2.2.1), (congrFun enk4 (m + 4)).trans ((pmU_n _ _ (by omega)).trans hR9.2.2.2.2.1), (congrFun enk4 (m + 5)).trans ((pmU_n _ _ (by omega)).trans hR9.2.2.2.2.2.1), (congrFun enk4 (m + 6)).trans ((pmU_n _ _ (by omega)).trans hR9.2.2.2.2.2.2.1), (congrFun enk4 (m + 7)).trans ((pmU_n _ _ (by omega)).trans hR9.2.2.2.2.2.2.2.1), (congrFun enk4 (m + 8)).trans ((pmU_n _ _ (by omega)).trans hR9.2.2.2.2.2.2.2.2.1), (congrFun enk4 (m + 9)).trans ((pmU_n _ _ (by omega)).trans hR9.2.2.2.2.2.2.2.2.2.1), (congrFun enk4 (m + 10)).trans ((pmU_n _ _ (by omega)).trans hR9.2.2.2.2.2.2.2.2.2.2.1), (congrFun enk4 (m + 11)).trans ((pmU_n _ _ (by omega)).trans hR9.2.2.2.2.2.2.2.2.2.2.2.1), (congrFun enk4 (m + 12)).trans ((pmU_n _ _ (by omega)).trans hR9.2.2.2.2.2.2.2.2.2.2.2.2.1), (congrFun enk4 (m + 13)).trans ((pmU_n _ _ (by omega)).trans hR9.2.2.2.2.2.2.2.2.2.2.2.2.2.1), (congrFun enk4 (m + 14)).trans ((pmU_n _ _ (by omega)).trans hR9.2.2.2.2.2.2.2.2.2.2.2.2.2.2.1), (congrFun enk4 (m + 15)).trans ((pmU_n _ _ (by omega)).trans hR9.2.2.2.2.2.2.2.2.2.2.2.2.2.2.2.1), (congrFun enk4 (m + 16)).trans ((pmU_n _ _ (by omega)).trans hR9.2.2.2.2.2.2.2.2.2.2.2.2.2.2.2.2)⟩
          have sk4 := s9.trans gsk4
          exact l_Ref_ch363 hln hf hv0 hsm hS2 h8 hRk4 sk4 hb9 (RG.nx hG9 (by rw [if_pos ⟨c4, fun q => c5 (h69.symm.trans q)⟩])) hp
  · refine go_iconst (v := 1) dRef_chunk_323 (by decide) ?_
    refine go_goto (tgt := 328) dRef_chunk_324 ?_
    refine go_bipush (v := 7) dRef_chunk_328 (by decide) ?_
    refine go_iload_n dRef_chunk_330 rfl ?_
    refine go_virtX dRef_chunk_331 ok_mRef_breakBy im_mRef_breakBy se_mRef_breakBy qm_Ref_280 hR9.1 (r_brk1 (g := g9) h289 hR9) (fun hx3 d3 q3 => ?_) (hnp := np_mRef_breakBy)
    obtain ⟨hR3, t3⟩ := q3
    have s3 := s9.trans t3
    exact l_Ref_chB334 (K := 7) (by rw [rcV, if_neg (fun q => q hF), if_neg (fun q => q hsm), if_neg hO, if_neg hU, if_neg (by rw [hln]; exact c2)]) (by decide) hR3 s3 hb9 rfl rfl
set_option maxHeartbeats 4000000 in
theorem l_Ref_chB261 {E : pmEv} {h0 h : pmH} {z : Option Nat} {d : Bool} {m : Nat} {g : Nat → Int32} {A : Nat → Nat → Int32} {o : Bool × aPic} {w p : aRow} {S : aRs} {a : Nat} {l : Nat} {gi K : Int32} (e : rcV p a S = K) (hK : ¬ K = 0) (hR : RfA h m g A) (hs : Sm h0 h m 17) (hb : RB g A o w p) (h28 : g 28 = K) (h33 : g 33 = nI a) : Go E (mRef_chunk, h0, 0, 0) 261 [some (.ref m), some (.int (nI a)), some (.int (nI l)), some (.int (fr p.1 (a + 4))), some (.int 0), some (.int (gi))] [] (h, z, d) 0 0 (RetV (ChQ m h0 o w p a S) z) := by
  have hK2 : ¬ g 28 = 0 := fun q => hK (h28.symm.trans q)
  refine go_aload_n dRef_chunk_261 rfl ?_
  refine go_iload dRef_chunk_262 rfl ?_
  refine go_if_eq (tgt := 295) dRef_chunk_264 (fun c1 => ?_) (fun c1 => ?_)
  · refine go_iconst (v := 0) dRef_chunk_295 (by decide) ?_
    refine go_bipush (v := 6) dRef_chunk_296 (by decide) ?_
    refine go_iload_n dRef_chunk_298 rfl ?_
    refine go_virtP dRef_chunk_299 ok_mRef_breakBy im_mRef_breakBy se_mRef_breakBy qm_Ref_280 hR.1 (r_brk2 hK2 hR) ?_ (hnp := np_mRef_breakBy)
    refine go_aload_n dRef_chunk_302 rfl ?_
    refine go_aload_n dRef_chunk_303 rfl ?_
    refine go_getf dRef_chunk_304 qf_Ref_206 hR.1 rfl ?_
    refine go_if_ne (tgt := 327) dRef_chunk_307 (fun c2 => ?_) (fun c2 => ?_)
    · refine go_iconst (v := 0) dRef_chunk_327 (by decide) ?_
      refine go_bipush (v := 7) dRef_chunk_328 (by decide) ?_
      refine go_iload_n dRef_chunk_330 rfl ?_
      refine go_virtP dRef_chunk_331 ok_mRef_breakBy im_mRef_breakBy se_mRef_breakBy qm_Ref_280 hR.1 (r_brk2 hK2 hR) ?_ (hnp := np_mRef_breakBy)
      exact l_Ref_chB334 e hK hR hs hb h28 h33
    · exact absurd c2 hK2
  · refine go_iload_n dRef_chunk_267 rfl ?_
    refine go_ldc dRef_chunk_268 qc_Ref_185 ?_
    refine go_icmp_eq (tgt := 295) dRef_chunk_270 (fun c2 => ?_) (fun c2 => ?_)
    · refine go_iconst (v := 0) dRef_chunk_295 (by decide) ?_
      refine go_bipush (v := 6) dRef_chunk_296 (by decide) ?_
      refine go_iload_n dRef_chunk_298 rfl ?_
      refine go_virtP dRef_chunk_299 ok_mRef_breakBy im_mRef_breakBy se_mRef_breakBy qm_Ref_280 hR.1 (r_brk2 hK2 hR) ?_ (hnp := np_mRef_breakBy)
      refine go_aload_n dRef_chunk_302 rfl ?_
      refine go_aload_n dRef_chunk_303 rfl ?_
      refine go_getf dRef_chunk_304 qf_Ref_206 hR.1 rfl ?_
      refine go_if_ne (tgt := 327) dRef_chunk_307 (fun c3 => ?_) (fun c3 => ?_)
      · refine go_iconst (v := 0) dRef_chunk_327 (by decide) ?_
        refine go_bipush (v := 7) dRef_chunk_328 (by decide) ?_
        refine go_iload_n dRef_chunk_330 rfl ?_
        refine go_virtP dRef_chunk_331 ok_mRef_breakBy im_mRef_breakBy se_mRef_breakBy qm_Ref_280 hR.1 (r_brk2 hK2 hR) ?_ (hnp := np_mRef_breakBy)
        exact l_Ref_chB334 e hK hR hs hb h28 h33
      · exact absurd c3 hK2
    · refine go_iload_n dRef_chunk_273 rfl ?_
      refine go_ldc dRef_chunk_274 qc_Ref_173 ?_
      refine go_icmp_eq (tgt := 295) dRef_chunk_276 (fun c3 => ?_) (fun c3 => ?_)
      · refine go_iconst (v := 0) dRef_chunk_295 (by decide) ?_
        refine go_bipush (v := 6) dRef_chunk_296 (by decide) ?_
        refine go_iload_n dRef_chunk_298 rfl ?_
        refine go_virtP dRef_chunk_299 ok_mRef_breakBy im_mRef_breakBy se_mRef_breakBy qm_Ref_280 hR.1 (r_brk2 hK2 hR) ?_ (hnp := np_mRef_breakBy)
        refine go_aload_n dRef_chunk_302 rfl ?_
        refine go_aload_n dRef_chunk_303 rfl ?_
        refine go_getf dRef_chunk_304 qf_Ref_206 hR.1 rfl ?_
        refine go_if_ne (tgt := 327) dRef_chunk_307 (fun c4 => ?_) (fun c4 => ?_)
        · refine go_iconst (v := 0) dRef_chunk_327 (by decide) ?_
          refine go_bipush (v := 7) dRef_chunk_328 (by decide) ?_
          refine go_iload_n dRef_chunk_330 rfl ?_
          refine go_virtP dRef_chunk_331 ok_mRef_breakBy im_mRef_breakBy se_mRef_breakBy qm_Ref_280 hR.1 (r_brk2 hK2 hR) ?_ (hnp := np_mRef_breakBy)
          exact l_Ref_chB334 e hK hR hs hb h28 h33
        · exact absurd c4 hK2
      · refine go_iload_n dRef_chunk_279 rfl ?_
        refine go_ldc dRef_chunk_280 qc_Ref_178 ?_
        refine go_icmp_eq (tgt := 295) dRef_chunk_282 (fun c4 => ?_) (fun c4 => ?_)
        · refine go_iconst (v := 0) dRef_chunk_295 (by decide) ?_
          refine go_bipush (v := 6) dRef_chunk_296 (by decide) ?_
          refine go_iload_n dRef_chunk_298 rfl ?_
          refine go_virtP dRef_chunk_299 ok_mRef_breakBy im_mRef_breakBy se_mRef_breakBy qm_Ref_280 hR.1 (r_brk2 hK2 hR) ?_ (hnp := np_mRef_breakBy)
          refine go_aload_n dRef_chunk_302 rfl ?_
          refine go_aload_n dRef_chunk_303 rfl ?_
          refine go_getf dRef_chunk_304 qf_Ref_206 hR.1 rfl ?_
          refine go_if_ne (tgt := 327) dRef_chunk_307 (fun c5 => ?_) (fun c5 => ?_)
          · refine go_iconst (v := 0) dRef_chunk_327 (by decide) ?_
            refine go_bipush (v := 7) dRef_chunk_328 (by decide) ?_
            refine go_iload_n dRef_chunk_330 rfl ?_
            refine go_virtP dRef_chunk_331 ok_mRef_breakBy im_mRef_breakBy se_mRef_breakBy qm_Ref_280 hR.1 (r_brk2 hK2 hR) ?_ (hnp := np_mRef_breakBy)
            exact l_Ref_chB334 e hK hR hs hb h28 h33
          · exact absurd c5 hK2
        · refine go_iload_n dRef_chunk_285 rfl ?_
          refine go_ldc dRef_chunk_286 qc_Ref_195 ?_
          refine go_icmp_eq (tgt := 295) dRef_chunk_288 (fun c5 => ?_) (fun c5 => ?_)
          · refine go_iconst (v := 0) dRef_chunk_295 (by decide) ?_
            refine go_bipush (v := 6) dRef_chunk_296 (by decide) ?_
            refine go_iload_n dRef_chunk_298 rfl ?_
            refine go_virtP dRef_chunk_299 ok_mRef_breakBy im_mRef_breakBy se_mRef_breakBy qm_Ref_280 hR.1 (r_brk2 hK2 hR) ?_ (hnp := np_mRef_breakBy)
            refine go_aload_n dRef_chunk_302 rfl ?_
            refine go_aload_n dRef_chunk_303 rfl ?_
            refine go_getf dRef_chunk_304 qf_Ref_206 hR.1 rfl ?_
            refine go_if_ne (tgt := 327) dRef_chunk_307 (fun c6 => ?_) (fun c6 => ?_)
            · refine go_iconst (v := 0) dRef_chunk_327 (by decide) ?_
              refine go_bipush (v := 7) dRef_chunk_328 (by decide) ?_
              refine go_iload_n dRef_chunk_330 rfl ?_
              refine go_virtP dRef_chunk_331 ok_mRef_breakBy im_mRef_breakBy se_mRef_breakBy qm_Ref_280 hR.1 (r_brk2 hK2 hR) ?_ (hnp := np_mRef_breakBy)
              exact l_Ref_chB334 e hK hR hs hb h28 h33
            · exact absurd c6 hK2
          · refine go_iconst (v := 1) dRef_chunk_291 (by decide) ?_
            refine go_goto (tgt := 296) dRef_chunk_292 ?_
            refine go_bipush (v := 6) dRef_chunk_296 (by decide) ?_
            refine go_iload_n dRef_chunk_298 rfl ?_
            refine go_virtP dRef_chunk_299 ok_mRef_breakBy im_mRef_breakBy se_mRef_breakBy qm_Ref_280 hR.1 (r_brk2 hK2 hR) ?_ (hnp := np_mRef_breakBy)
            refine go_aload_n dRef_chunk_302 rfl ?_
            refine go_aload_n dRef_chunk_303 rfl ?_
            refine go_getf dRef_chunk_304 qf_Ref_206 hR.1 rfl ?_
            refine go_if_ne (tgt := 327) dRef_chunk_307 (fun c6 => ?_) (fun c6 => ?_)
            · refine go_iconst (v := 0) dRef_chunk_327 (by decide) ?_
              refine go_bipush (v := 7) dRef_chunk_328 (by decide) ?_
              refine go_iload_n dRef_chunk_330 rfl ?_
              refine go_virtP dRef_chunk_331 ok_mRef_breakBy im_mRef_breakBy se_mRef_breakBy qm_Ref_280 hR.1 (r_brk2 hK2 hR) ?_ (hnp := np_mRef_breakBy)
              exact l_Ref_chB334 e hK hR hs hb h28 h33
            · exact absurd c6 hK2
set_option maxHeartbeats 4000000 in
theorem l_Ref_ch250 {E : pmEv} {h0 h : pmH} {z : Option Nat} {d : Bool} {m : Nat} {g : Nat → Int32} {A : Nat → Nat → Int32} {o : Bool × aPic} {w p : aRow} {S : aRs} {a : Nat} {l : Nat} (hln : lnN p a = l) (hf : a + 12 + l ≤ p.2) (hF : frV p a = 0) (hsm : smW p a) (el : fr p.1 a = nI l) (hl : l ≤ 255) (hx : letsOk (fr p.1 (a + 4))) (hR : RfA h m g A) (hs : Sm h0 h m 17) (hb : RB g A o w p) (hG : RG g A S a) (hp : p.2 ≤ 2000) (hB : AllB p) : Go E (mRef_chunk, h0, 0, 0) 250 [some (.ref m), some (.int (nI a)), some (.int (nI l)), some (.int (fr p.1 (a + 4))), some (.int 0), some (.int (bI (grW (fr p.1 (a + 4)))))] [] (h, z, d) 0 0 (RetV (ChQ m h0 o w p a S) z) := by
  refine go_aload_n dRef_chunk_250 rfl ?_
  refine go_aload_n dRef_chunk_251 rfl ?_
  refine go_iload_n dRef_chunk_252 rfl ?_
  refine go_virtP dRef_chunk_253 ok_mRef_isOutOfOrder im_mRef_isOutOfOrder se_mRef_isOutOfOrder qm_Ref_284 hR.1 (r_isOutOfOrder (S := (S.1, S.2.1, frG p a S.2.2)) (x := (fr p.1 (a + 4))) rfl hR hG) ?_ (hnp := np_mRef_isOutOfOrder)
  by_cases hO : ordW (frG p a S.2.2) S.1.2
  · refine go_top (y := 1) (by exact bI_t hO) ?_
    refine go_iconst (v := 5) dRef_chunk_256 (by decide) ?_
    refine go_iload_n dRef_chunk_257 rfl ?_
    refine go_virtX dRef_chunk_258 ok_mRef_breakBy im_mRef_breakBy se_mRef_breakBy qm_Ref_280 hR.1 (r_brk1 (g := g) hG.1 hR) (fun hx1 d1 q1 => ?_) (hnp := np_mRef_breakBy)
    obtain ⟨hR1, t1⟩ := q1
    have s1 := hs.trans t1
    exact l_Ref_chB261 (K := 5) (by rw [rcV, if_neg (fun q => q hF), if_neg (fun q => q hsm), if_pos hO]) (by decide) hR1 s1 hb rfl rfl
  · refine go_top (y := 0) (by exact bI_f hO) ?_
    refine go_iconst (v := 5) dRef_chunk_256 (by decide) ?_
    refine go_iload_n dRef_chunk_257 rfl ?_
    refine go_virtP dRef_chunk_258 ok_mRef_breakBy im_mRef_breakBy se_mRef_breakBy qm_Ref_280 hR.1 (r_brk0 hR) ?_ (hnp := np_mRef_breakBy)
    refine go_aload_n dRef_chunk_261 rfl ?_
    refine go_iload dRef_chunk_262 rfl ?_
    refine go_ifeq_b (tgt := 295) dRef_chunk_264 (fun c1 => ?_) (fun c1 => ?_)
    · refine go_iconst (v := 0) dRef_chunk_295 (by decide) ?_
      refine go_bipush (v := 6) dRef_chunk_296 (by decide) ?_
      refine go_iload_n dRef_chunk_298 rfl ?_
      refine go_virtP dRef_chunk_299 ok_mRef_breakBy im_mRef_breakBy se_mRef_breakBy qm_Ref_280 hR.1 (r_brk0 hR) ?_ (hnp := np_mRef_breakBy)
      exact l_Ref_ch302 hln hf hF hsm el hl hx hO (fun q => c1 q.1) hR hs hb hG hp hB
    · refine go_iload_n dRef_chunk_267 rfl ?_
      refine go_ldc dRef_chunk_268 qc_Ref_185 ?_
      refine go_icmp_eq (tgt := 295) dRef_chunk_270 (fun c2 => ?_) (fun c2 => ?_)
      · refine go_iconst (v := 0) dRef_chunk_295 (by decide) ?_
        refine go_bipush (v := 6) dRef_chunk_296 (by decide) ?_
        refine go_iload_n dRef_chunk_298 rfl ?_
        refine go_virtP dRef_chunk_299 ok_mRef_breakBy im_mRef_breakBy se_mRef_breakBy qm_Ref_280 hR.1 (r_brk0 hR) ?_ (hnp := np_mRef_breakBy)
        exact l_Ref_ch302 hln hf hF hsm el hl hx hO (fun q => q.2.1 c2) hR hs hb hG hp hB
      · refine go_iload_n dRef_chunk_273 rfl ?_
        refine go_ldc dRef_chunk_274 qc_Ref_173 ?_
        refine go_icmp_eq (tgt := 295) dRef_chunk_276 (fun c3 => ?_) (fun c3 => ?_)
        · refine go_iconst (v := 0) dRef_chunk_295 (by decide) ?_
          refine go_bipush (v := 6) dRef_chunk_296 (by decide) ?_
          refine go_iload_n dRef_chunk_298 rfl ?_
          refine go_virtP dRef_chunk_299 ok_mRef_breakBy im_mRef_breakBy se_mRef_breakBy qm_Ref_280 hR.1 (r_brk0 hR) ?_ (hnp := np_mRef_breakBy)
          exact l_Ref_ch302 hln hf hF hsm el hl hx hO (fun q => q.2.2.1 c3) hR hs hb hG hp hB
        · refine go_iload_n dRef_chunk_279 rfl ?_
          refine go_ldc dRef_chunk_280 qc_Ref_178 ?_
          refine go_icmp_eq (tgt := 295) dRef_chunk_282 (fun c4 => ?_) (fun c4 => ?_)
          · refine go_iconst (v := 0) dRef_chunk_295 (by decide) ?_
            refine go_bipush (v := 6) dRef_chunk_296 (by decide) ?_
            refine go_iload_n dRef_chunk_298 rfl ?_
            refine go_virtP dRef_chunk_299 ok_mRef_breakBy im_mRef_breakBy se_mRef_breakBy qm_Ref_280 hR.1 (r_brk0 hR) ?_ (hnp := np_mRef_breakBy)
            exact l_Ref_ch302 hln hf hF hsm el hl hx hO (fun q => q.2.2.2.1 c4) hR hs hb hG hp hB
          · refine go_iload_n dRef_chunk_285 rfl ?_
            refine go_ldc dRef_chunk_286 qc_Ref_195 ?_
            refine go_icmp_eq (tgt := 295) dRef_chunk_288 (fun c5 => ?_) (fun c5 => ?_)
            · refine go_iconst (v := 0) dRef_chunk_295 (by decide) ?_
              refine go_bipush (v := 6) dRef_chunk_296 (by decide) ?_
              refine go_iload_n dRef_chunk_298 rfl ?_
              refine go_virtP dRef_chunk_299 ok_mRef_breakBy im_mRef_breakBy se_mRef_breakBy qm_Ref_280 hR.1 (r_brk0 hR) ?_ (hnp := np_mRef_breakBy)
              exact l_Ref_ch302 hln hf hF hsm el hl hx hO (fun q => q.2.2.2.2 c5) hR hs hb hG hp hB
            · refine go_iconst (v := 1) dRef_chunk_291 (by decide) ?_
              refine go_goto (tgt := 296) dRef_chunk_292 ?_
              refine go_bipush (v := 6) dRef_chunk_296 (by decide) ?_
              refine go_iload_n dRef_chunk_298 rfl ?_
              refine go_virtX dRef_chunk_299 ok_mRef_breakBy im_mRef_breakBy se_mRef_breakBy qm_Ref_280 hR.1 (r_brk1 (g := g) hG.1 hR) (fun hx6 d6 q6 => ?_) (hnp := np_mRef_breakBy)
              obtain ⟨hR6, t6⟩ := q6
              have s6 := hs.trans t6
              refine go_aload_n dRef_chunk_302 rfl ?_
              refine go_aload_n dRef_chunk_303 rfl ?_
              refine go_getf dRef_chunk_304 qf_Ref_206 hR6.1 rfl ?_
              refine go_top (y := 6) (by rfl) ?_
              refine go_if_ne (tgt := 327) dRef_chunk_307 (fun _ => ?_) (fun cc => absurd cc (by decide))
              refine go_iconst (v := 0) dRef_chunk_327 (by decide) ?_
              refine go_bipush (v := 7) dRef_chunk_328 (by decide) ?_
              refine go_iload_n dRef_chunk_330 rfl ?_
              refine go_virtP dRef_chunk_331 ok_mRef_breakBy im_mRef_breakBy se_mRef_breakBy qm_Ref_280 hR6.1 (r_brk0 hR6) ?_ (hnp := np_mRef_breakBy)
              exact l_Ref_chB334 (K := 6) (by rw [rcV, if_neg (fun q => q hF), if_neg (fun q => q hsm), if_neg hO, if_pos ⟨c1, c2, c3, c4, c5⟩]) (by decide) hR6 s6 hb rfl rfl
set_option maxHeartbeats 4000000 in
theorem l_Ref_ch131 {E : pmEv} {h0 h : pmH} {z : Option Nat} {d : Bool} {m : Nat} {g : Nat → Int32} {A : Nat → Nat → Int32} {o : Bool × aPic} {w p : aRow} {S : aRs} {a : Nat} {l : Nat} (hln : lnN p a = l) (hf : a + 12 + l ≤ p.2) (hF : frV p a = 0) (el : fr p.1 a = nI l) (hl : l ≤ 255) (hx : letsOk (fr p.1 (a + 4))) (hR : RfA h m g A) (hs : Sm h0 h m 17) (hb : RB g A o w p) (hG : RG g A S a) (hp : p.2 ≤ 2000) (hB : AllB p) : Go E (mRef_chunk, h0, 0, 0) 131 [some (.ref m), some (.int (nI a)), some (.int (nI l)), some (.int (fr p.1 (a + 4))), none, none] [] (h, z, d) 0 0 (RetV (ChQ m h0 o w p a S) z) := by
  have h13 := hb.2.2.1.2
  have hsi := sm_iff hp hf hl el
  refine go_aload_n dRef_chunk_131 rfl ?_
  refine go_getf dRef_chunk_132 qf_Ref_49 hR.1 rfl ?_
  refine go_iload_n dRef_chunk_135 rfl ?_
  refine go_bipush (v := 8) dRef_chunk_136 (by decide) ?_
  refine go_iadd dRef_chunk_138 ?_
  refine go_iload_n dRef_chunk_139 rfl ?_
  refine go_iadd dRef_chunk_140 ?_
  refine go_top (y := nI (a + 8 + l)) (by rw [nI_a8, nI_add]) ?_
  refine go_statP dRef_chunk_141 ok_mRef_four st_mRef_four qm_Ref_199 (r_four (N := 2000) (f := A 13) (j := a + 8 + l) (by omega) (by omega) hR.2.2.2.2.2.2.2.2.2.2.2.2.2.2.1) ?_ (hnp := np_mRef_four)
  refine go_top (y := fr p.1 (a + 8 + l)) (by exact fr_ag h13 (by omega)) ?_
  refine go_aload_n dRef_chunk_144 rfl ?_
  refine go_getf dRef_chunk_145 qf_Ref_49 hR.1 rfl ?_
  refine go_iload_n dRef_chunk_148 rfl ?_
  refine go_iconst (v := 4) dRef_chunk_149 (by decide) ?_
  refine go_iadd dRef_chunk_150 ?_
  refine go_top (y := nI (a + 4)) (by exact nI_a4 _) ?_
  refine go_iload_n dRef_chunk_151 rfl ?_
  refine go_bipush (v := 8) dRef_chunk_152 (by decide) ?_
  refine go_iadd dRef_chunk_154 ?_
  refine go_iload_n dRef_chunk_155 rfl ?_
  refine go_iadd dRef_chunk_156 ?_
  refine go_top (y := nI (a + 12 + l - 4)) (by rw [nI_a8, nI_add]; exact congrArg nI (by omega)) ?_
  refine go_statP dRef_chunk_157 ok_mRef_sumOf st_mRef_sumOf qm_Ref_160 (r_sumOf (N := 2000) (f := A 13) (i0 := a + 4) (e := a + 12 + l - 4) (by omega) (by omega) (by omega) (fun j _ h2 => by rw [h13 j (by omega)]; exact hB j (by omega)) hR.2.2.2.2.2.2.2.2.2.2.2.2.2.2.1) ?_ (hnp := np_mRef_sumOf)
  refine go_top (y := wSum p (a + 4) (l + 4)) (by exact al_sum h13 (by omega) hl hf) ?_
  refine go_icmp_eq (tgt := 167) dRef_chunk_160 (fun c1 => ?_) (fun c1 => ?_)
  · refine go_iconst (v := 0) dRef_chunk_167 (by decide) ?_
    refine go_istore dRef_chunk_168 ?_
    refine go_iload_n dRef_chunk_170 rfl ?_
    refine go_iconst (v := 0) dRef_chunk_171 (by decide) ?_
    refine go_statP dRef_chunk_172 ok_mRef_letter st_mRef_letter qm_Ref_111 (r_letter (k := 0) (by omega)) ?_ (hnp := np_mRef_letter)
    refine go_statP dRef_chunk_175 ok_mRef_isGreat st_mRef_isGreat qm_Ref_115 r_isGreat ?_ (hnp := np_mRef_isGreat)
    refine go_istore dRef_chunk_178 ?_
    refine go_aload_n dRef_chunk_180 rfl ?_
    refine go_iload dRef_chunk_181 rfl ?_
    refine go_if_eq (tgt := 195) dRef_chunk_183 (fun _ => ?_) (fun cc => absurd (by decide) cc)
    refine go_iconst (v := 0) dRef_chunk_195 (by decide) ?_
    refine go_iconst (v := 4) dRef_chunk_196 (by decide) ?_
    refine go_iload_n dRef_chunk_197 rfl ?_
    refine go_virtP dRef_chunk_198 ok_mRef_breakBy im_mRef_breakBy se_mRef_breakBy qm_Ref_280 hR.1 (r_brk0 hR) ?_ (hnp := np_mRef_breakBy)
    refine go_iload dRef_chunk_201 rfl ?_
    refine go_if_eq (tgt := 250) dRef_chunk_203 (fun _ => ?_) (fun cc => absurd (by decide) cc)
    exact l_Ref_ch250 hln hf hF (hsi.mpr c1) el hl hx hR hs hb hG hp hB
  · have hns : ¬ smW p a := fun q => c1 (hsi.mp q)
    refine go_iconst (v := 1) dRef_chunk_163 (by decide) ?_
    refine go_goto (tgt := 168) dRef_chunk_164 ?_
    refine go_istore dRef_chunk_168 ?_
    refine go_iload_n dRef_chunk_170 rfl ?_
    refine go_iconst (v := 0) dRef_chunk_171 (by decide) ?_
    refine go_statP dRef_chunk_172 ok_mRef_letter st_mRef_letter qm_Ref_111 (r_letter (k := 0) (by omega)) ?_ (hnp := np_mRef_letter)
    refine go_statP dRef_chunk_175 ok_mRef_isGreat st_mRef_isGreat qm_Ref_115 r_isGreat ?_ (hnp := np_mRef_isGreat)
    refine go_istore dRef_chunk_178 ?_
    refine go_aload_n dRef_chunk_180 rfl ?_
    refine go_iload dRef_chunk_181 rfl ?_
    refine go_if_eq (tgt := 195) dRef_chunk_183 (fun cc => absurd cc (by decide)) (fun _ => ?_)
    refine go_iload dRef_chunk_186 rfl ?_
    refine go_ifeq_b (tgt := 195) dRef_chunk_188 (fun c2 => ?_) (fun c2 => ?_)
    · refine go_iconst (v := 0) dRef_chunk_195 (by decide) ?_
      refine go_iconst (v := 4) dRef_chunk_196 (by decide) ?_
      refine go_iload_n dRef_chunk_197 rfl ?_
      refine go_virtP dRef_chunk_198 ok_mRef_breakBy im_mRef_breakBy se_mRef_breakBy qm_Ref_280 hR.1 (r_brk0 hR) ?_ (hnp := np_mRef_breakBy)
      refine go_iload dRef_chunk_201 rfl ?_
      refine go_if_eq (tgt := 250) dRef_chunk_203 (fun cc => absurd cc (by decide)) (fun _ => ?_)
      refine go_aload_n dRef_chunk_206 rfl ?_
      refine go_dup dRef_chunk_207 rfl ?_
      refine go_getf dRef_chunk_208 qf_Ref_277 hR.1 rfl ?_
      refine go_iload dRef_chunk_211 rfl ?_
      refine go_ifeq_b (tgt := 220) dRef_chunk_213 (fun c3 => ?_) (fun c3 => ?_)
      · refine go_iconst (v := 1) dRef_chunk_220 (by decide) ?_
        refine go_iadd dRef_chunk_221 ?_
        refine go_top (y := S.2.2 4 + 1) (by rw [hG.2.2.2.1]) ?_
        refine go_putf dRef_chunk_222 qf_Ref_277 pw_8_27 hR.1 rfl rfl ?_
        refine go_aload_n dRef_chunk_225 rfl ?_
        refine go_aload_n dRef_chunk_226 rfl ?_
        refine go_getf dRef_chunk_227 qf_Ref_230 (pmU_s _ _ _) rfl ?_
        refine go_top (y := S.2.2 12) (by exact hG.2.1.2.2.2.2) ?_
        refine go_if_ne (tgt := 240) dRef_chunk_230 (fun c4 => ?_) (fun c4 => ?_)
        · refine go_iconst (v := 1) dRef_chunk_240 (by decide) ?_
          refine go_goto (tgt := 245) dRef_chunk_241 ?_
          refine go_putf dRef_chunk_245 qf_Ref_230 pw_8_40 (pmU_s _ _ _) rfl rfl ?_
          refine go_nm (fun hnk1 enk1 => ?_)
          have gsk1 : Sm h hnk1 m 17 := by rw [enk1]; exact (Sm.put' (Sm.put' (Sm.refl _ _ _) _ (by omega) (by omega)) _ (by omega) (by omega))
          have hRk1 : RfA hnk1 m (upd (upd g 27 (S.2.2 4 + 1)) 40 1) (A) := ⟨(congrFun enk1 m).trans (pmU_s _ _ _), (congrFun enk1 (m + 1)).trans ((pmU_n _ _ (by omega)).trans ((pmU_n _ _ (by omega)).trans hR.2.1)), (congrFun enk1 (m + 2)).trans ((pmU_n _ _ (by omega)).trans ((pmU_n _ _ (by omega)).trans hR.2.2.1)), (congrFun enk1 (m + 3)).trans ((pmU_n _ _ (by omega)).trans ((pmU_n _ _ (by omega)).trans hR.2.2.2.1)), (congrFun enk1 (m + 4)).trans ((pmU_n _ _ (by omega)).trans ((pmU_n _ _ (by omega)).trans hR.2.2.2.2.1)), (congrFun enk1 (m + 5)).trans ((pmU_n _ _ (by omega)).trans ((pmU_n _ _ (by omega)).trans hR.2.2.2.2.2.1)), (congrFun enk1 (m + 6)).trans ((pmU_n _ _ (by omega)).trans ((pmU_n _ _ (by omega)).trans hR.2.2.2.2.2.2.1)), (congrFun enk1 (m + 7)).trans ((pmU_n _ _ (by omega)).trans ((pmU_n _ _ (by omega)).trans hR.2.2.2.2.2.2.2.1)), (congrFun enk1 (m + 8)).trans ((pmU_n _ _ (by omega)).trans ((pmU_n _ _ (by omega)).trans hR.2.2.2.2.2.2.2.2.1)), (congrFun enk1 (m + 9)).trans ((pmU_n _ _ (by omega)).trans ((pmU_n _ _ (by omega)).trans hR.2.2.2.2.2.2.2.2.2.1)), (congrFun enk1 (m + 10)).trans ((pmU_n _ _ (by omega)).trans ((pmU_n _ _ (by omega)).trans hR.2.2.2.2.2.2.2.2.2.2.1)), (congrFun enk1 (m + 11)).trans ((pmU_n _ _ (by omega)).trans ((pmU_n _ _ (by omega)).trans hR.2.2.2.2.2.2.2.2.2.2.2.1)), (congrFun enk1 (m + 12)).trans ((pmU_n _ _ (by omega)).trans ((pmU_n _ _ (by omega)).trans hR.2.2.2.2.2.2.2.2.2.2.2.2.1)), (congrFun enk1 (m + 13)).trans ((pmU_n _ _ (by omega)).trans ((pmU_n _ _ (by omega)).trans hR.2.2.2.2.2.2.2.2.2.2.2.2.2.1)), (congrFun enk1 (m + 14)).trans ((pmU_n _ _ (by omega)).trans ((pmU_n _ _ (by omega)).trans hR.2.2.2.2.2.2.2.2.2.2.2.2.2.2.1)), (congrFun enk1 (m + 15)).trans ((pmU_n _ _ (by omega)).trans ((pmU_n _ _ (by omega)).trans hR.2.2.2.2.2.2.2.2.2.2.2.2.2.2.2.1)), (congrFun enk1 (m + 16)).trans ((pmU_n _ _ (by omega)).trans ((pmU_n _ _ (by omega)).trans hR.2.2.2.2.2.2.2.2.2.2.2.2.2.2.2.2))⟩
          have sk1 := hs.trans gsk1
          refine go_iconst (v := 0) dRef_chunk_248 (by decide) ?_
          refine go_iret dRef_chunk_249 rfl rfl ?_ (Nat.le_of_ble_eq_true rfl) (Nat.le_of_ble_eq_true rfl)
          exact ch_go (by rw [rcV, if_neg (fun q => q hF), if_pos hns, if_neg (show ¬ grW (fr p.1 (a + 4)) from c2)]) (fun q => c2 (by rw [q]; decide)) hRk1 sk1 hb (by rw [rcS, if_pos hns, hln]; exact hG.lo c2 (by rw [if_pos (hG.2.2.2.2.2.2.2 c4)]) (by omega)) (by rw [if_neg hns])
        · refine go_aload_n dRef_chunk_233 rfl ?_
          refine go_getf dRef_chunk_234 qf_Ref_218 (pmU_s _ _ _) rfl ?_
          refine go_top (y := S.2.2 11) (by exact hG.2.1.2.2.2.1) ?_
          refine go_if_eq (tgt := 244) dRef_chunk_237 (fun c5 => ?_) (fun c5 => ?_)
          · refine go_iconst (v := 0) dRef_chunk_244 (by decide) ?_
            refine go_putf dRef_chunk_245 qf_Ref_230 pw_8_40 (pmU_s _ _ _) rfl rfl ?_
            refine go_nm (fun hnk2 enk2 => ?_)
            have gsk2 : Sm h hnk2 m 17 := by rw [enk2]; exact (Sm.put' (Sm.put' (Sm.refl _ _ _) _ (by omega) (by omega)) _ (by omega) (by omega))
            have hRk2 : RfA hnk2 m (upd (upd g 27 (S.2.2 4 + 1)) 40 0) (A) := ⟨(congrFun enk2 m).trans (pmU_s _ _ _), (congrFun enk2 (m + 1)).trans ((pmU_n _ _ (by omega)).trans ((pmU_n _ _ (by omega)).trans hR.2.1)), (congrFun enk2 (m + 2)).trans ((pmU_n _ _ (by omega)).trans ((pmU_n _ _ (by omega)).trans hR.2.2.1)), (congrFun enk2 (m + 3)).trans ((pmU_n _ _ (by omega)).trans ((pmU_n _ _ (by omega)).trans hR.2.2.2.1)), (congrFun enk2 (m + 4)).trans ((pmU_n _ _ (by omega)).trans ((pmU_n _ _ (by omega)).trans hR.2.2.2.2.1)), (congrFun enk2 (m + 5)).trans ((pmU_n _ _ (by omega)).trans ((pmU_n _ _ (by omega)).trans hR.2.2.2.2.2.1)), (congrFun enk2 (m + 6)).trans ((pmU_n _ _ (by omega)).trans ((pmU_n _ _ (by omega)).trans hR.2.2.2.2.2.2.1)), (congrFun enk2 (m + 7)).trans ((pmU_n _ _ (by omega)).trans ((pmU_n _ _ (by omega)).trans hR.2.2.2.2.2.2.2.1)), (congrFun enk2 (m + 8)).trans ((pmU_n _ _ (by omega)).trans ((pmU_n _ _ (by omega)).trans hR.2.2.2.2.2.2.2.2.1)), (congrFun enk2 (m + 9)).trans ((pmU_n _ _ (by omega)).trans ((pmU_n _ _ (by omega)).trans hR.2.2.2.2.2.2.2.2.2.1)), (congrFun enk2 (m + 10)).trans ((pmU_n _ _ (by omega)).trans ((pmU_n _ _ (by omega)).trans hR.2.2.2.2.2.2.2.2.2.2.1)), (congrFun enk2 (m + 11)).trans ((pmU_n _ _ (by omega)).trans ((pmU_n _ _ (by omega)).trans hR.2.2.2.2.2.2.2.2.2.2.2.1)), (congrFun enk2 (m + 12)).trans ((pmU_n _ _ (by omega)).trans ((pmU_n _ _ (by omega)).trans hR.2.2.2.2.2.2.2.2.2.2.2.2.1)), (congrFun enk2 (m + 13)).trans ((pmU_n _ _ (by omega)).trans ((pmU_n _ _ (by omega)).trans hR.2.2.2.2.2.2.2.2.2.2.2.2.2.1)), (congrFun enk2 (m + 14)).trans ((pmU_n _ _ (by omega)).trans ((pmU_n _ _ (by omega)).trans hR.2.2.2.2.2.2.2.2.2.2.2.2.2.2.1)), (congrFun enk2 (m + 15)).trans ((pmU_n _ _ (by omega)).trans ((pmU_n _ _ (by omega)).trans hR.2.2.2.2.2.2.2.2.2.2.2.2.2.2.2.1)), (congrFun enk2 (m + 16)).trans ((pmU_n _ _ (by omega)).trans ((pmU_n _ _ (by omega)).trans hR.2.2.2.2.2.2.2.2.2.2.2.2.2.2.2.2))⟩
            have sk2 := hs.trans gsk2
            refine go_iconst (v := 0) dRef_chunk_248 (by decide) ?_
            refine go_iret dRef_chunk_249 rfl rfl ?_ (Nat.le_of_ble_eq_true rfl) (Nat.le_of_ble_eq_true rfl)
            exact ch_go (by rw [rcV, if_neg (fun q => q hF), if_pos hns, if_neg (show ¬ grW (fr p.1 (a + 4)) from c2)]) (fun q => c2 (by rw [q]; decide)) hRk2 sk2 hb (by rw [rcS, if_pos hns, hln]; exact hG.lo c2 (by rw [if_neg (fun q => q c5)]) (by omega)) (by rw [if_neg hns])
          · refine go_iconst (v := 1) dRef_chunk_240 (by decide) ?_
            refine go_goto (tgt := 245) dRef_chunk_241 ?_
            refine go_putf dRef_chunk_245 qf_Ref_230 pw_8_40 (pmU_s _ _ _) rfl rfl ?_
            refine go_nm (fun hnk3 enk3 => ?_)
            have gsk3 : Sm h hnk3 m 17 := by rw [enk3]; exact (Sm.put' (Sm.put' (Sm.refl _ _ _) _ (by omega) (by omega)) _ (by omega) (by omega))
            have hRk3 : RfA hnk3 m (upd (upd g 27 (S.2.2 4 + 1)) 40 1) (A) := ⟨(congrFun enk3 m).trans (pmU_s _ _ _), (congrFun enk3 (m + 1)).trans ((pmU_n _ _ (by omega)).trans ((pmU_n _ _ (by omega)).trans hR.2.1)), (congrFun enk3 (m + 2)).trans ((pmU_n _ _ (by omega)).trans ((pmU_n _ _ (by omega)).trans hR.2.2.1)), (congrFun enk3 (m + 3)).trans ((pmU_n _ _ (by omega)).trans ((pmU_n _ _ (by omega)).trans hR.2.2.2.1)), (congrFun enk3 (m + 4)).trans ((pmU_n _ _ (by omega)).trans ((pmU_n _ _ (by omega)).trans hR.2.2.2.2.1)), (congrFun enk3 (m + 5)).trans ((pmU_n _ _ (by omega)).trans ((pmU_n _ _ (by omega)).trans hR.2.2.2.2.2.1)), (congrFun enk3 (m + 6)).trans ((pmU_n _ _ (by omega)).trans ((pmU_n _ _ (by omega)).trans hR.2.2.2.2.2.2.1)), (congrFun enk3 (m + 7)).trans ((pmU_n _ _ (by omega)).trans ((pmU_n _ _ (by omega)).trans hR.2.2.2.2.2.2.2.1)), (congrFun enk3 (m + 8)).trans ((pmU_n _ _ (by omega)).trans ((pmU_n _ _ (by omega)).trans hR.2.2.2.2.2.2.2.2.1)), (congrFun enk3 (m + 9)).trans ((pmU_n _ _ (by omega)).trans ((pmU_n _ _ (by omega)).trans hR.2.2.2.2.2.2.2.2.2.1)), (congrFun enk3 (m + 10)).trans ((pmU_n _ _ (by omega)).trans ((pmU_n _ _ (by omega)).trans hR.2.2.2.2.2.2.2.2.2.2.1)), (congrFun enk3 (m + 11)).trans ((pmU_n _ _ (by omega)).trans ((pmU_n _ _ (by omega)).trans hR.2.2.2.2.2.2.2.2.2.2.2.1)), (congrFun enk3 (m + 12)).trans ((pmU_n _ _ (by omega)).trans ((pmU_n _ _ (by omega)).trans hR.2.2.2.2.2.2.2.2.2.2.2.2.1)), (congrFun enk3 (m + 13)).trans ((pmU_n _ _ (by omega)).trans ((pmU_n _ _ (by omega)).trans hR.2.2.2.2.2.2.2.2.2.2.2.2.2.1)), (congrFun enk3 (m + 14)).trans ((pmU_n _ _ (by omega)).trans ((pmU_n _ _ (by omega)).trans hR.2.2.2.2.2.2.2.2.2.2.2.2.2.2.1)), (congrFun enk3 (m + 15)).trans ((pmU_n _ _ (by omega)).trans ((pmU_n _ _ (by omega)).trans hR.2.2.2.2.2.2.2.2.2.2.2.2.2.2.2.1)), (congrFun enk3 (m + 16)).trans ((pmU_n _ _ (by omega)).trans ((pmU_n _ _ (by omega)).trans hR.2.2.2.2.2.2.2.2.2.2.2.2.2.2.2.2))⟩
            have sk3 := hs.trans gsk3
            refine go_iconst (v := 0) dRef_chunk_248 (by decide) ?_
            refine go_iret dRef_chunk_249 rfl rfl ?_ (Nat.le_of_ble_eq_true rfl) (Nat.le_of_ble_eq_true rfl)
            exact ch_go (by rw [rcV, if_neg (fun q => q hF), if_pos hns, if_neg (show ¬ grW (fr p.1 (a + 4)) from c2)]) (fun q => c2 (by rw [q]; decide)) hRk3 sk3 hb (by rw [rcS, if_pos hns, hln]; exact hG.lo c2 (by rw [if_pos c5]) (by omega)) (by rw [if_neg hns])
      · exact absurd c3 c2
    · refine go_iconst (v := 1) dRef_chunk_191 (by decide) ?_
      refine go_goto (tgt := 196) dRef_chunk_192 ?_
      refine go_iconst (v := 4) dRef_chunk_196 (by decide) ?_
      refine go_iload_n dRef_chunk_197 rfl ?_
      refine go_virtX dRef_chunk_198 ok_mRef_breakBy im_mRef_breakBy se_mRef_breakBy qm_Ref_280 hR.1 (r_brk1 (g := g) hG.1 hR) (fun hx3 d3 q3 => ?_) (hnp := np_mRef_breakBy)
      obtain ⟨hR3, t3⟩ := q3
      have s3 := hs.trans t3
      refine go_iload dRef_chunk_201 rfl ?_
      refine go_if_eq (tgt := 250) dRef_chunk_203 (fun cc => absurd cc (by decide)) (fun _ => ?_)
      refine go_aload_n dRef_chunk_206 rfl ?_
      refine go_dup dRef_chunk_207 rfl ?_
      refine go_getf dRef_chunk_208 qf_Ref_277 hR3.1 rfl ?_
      refine go_iload dRef_chunk_211 rfl ?_
      refine go_ifeq_b (tgt := 220) dRef_chunk_213 (fun c4 => ?_) (fun c4 => ?_)
      · exact absurd c2 c4
      · refine go_iconst (v := 0) dRef_chunk_216 (by decide) ?_
        refine go_goto (tgt := 221) dRef_chunk_217 ?_
        refine go_iadd dRef_chunk_221 ?_
        skip
        refine go_putf dRef_chunk_222 qf_Ref_277 pw_8_27 hR3.1 rfl rfl ?_
        refine go_aload_n dRef_chunk_225 rfl ?_
        refine go_aload_n dRef_chunk_226 rfl ?_
        refine go_getf dRef_chunk_227 qf_Ref_230 (pmU_s _ _ _) rfl ?_
        refine go_top (y := S.2.2 12) (by exact hG.2.1.2.2.2.2) ?_
        refine go_if_ne (tgt := 240) dRef_chunk_230 (fun c5 => ?_) (fun c5 => ?_)
        · refine go_iconst (v := 1) dRef_chunk_240 (by decide) ?_
          refine go_goto (tgt := 245) dRef_chunk_241 ?_
          refine go_putf dRef_chunk_245 qf_Ref_230 pw_8_40 (pmU_s _ _ _) rfl rfl ?_
          refine go_nm (fun hnk4 enk4 => ?_)
          have gsk4 : Sm hx3 hnk4 m 17 := by rw [enk4]; exact (Sm.put' (Sm.put' (Sm.refl _ _ _) _ (by omega) (by omega)) _ (by omega) (by omega))
          have hRk4 : RfA hnk4 m (upd (upd (upd (upd g 28 4) 33 (nI a)) 27 (g 27 + 0)) 40 1) (A) := ⟨(congrFun enk4 m).trans (pmU_s _ _ _), (congrFun enk4 (m + 1)).trans ((pmU_n _ _ (by omega)).trans ((pmU_n _ _ (by omega)).trans hR3.2.1)), (congrFun enk4 (m + 2)).trans ((pmU_n _ _ (by omega)).trans ((pmU_n _ _ (by omega)).trans hR3.2.2.1)), (congrFun enk4 (m + 3)).trans ((pmU_n _ _ (by omega)).trans ((pmU_n _ _ (by omega)).trans hR3.2.2.2.1)), (congrFun enk4 (m + 4)).trans ((pmU_n _ _ (by omega)).trans ((pmU_n _ _ (by omega)).trans hR3.2.2.2.2.1)), (congrFun enk4 (m + 5)).trans ((pmU_n _ _ (by omega)).trans ((pmU_n _ _ (by omega)).trans hR3.2.2.2.2.2.1)), (congrFun enk4 (m + 6)).trans ((pmU_n _ _ (by omega)).trans ((pmU_n _ _ (by omega)).trans hR3.2.2.2.2.2.2.1)), (congrFun enk4 (m + 7)).trans ((pmU_n _ _ (by omega)).trans ((pmU_n _ _ (by omega)).trans hR3.2.2.2.2.2.2.2.1)), (congrFun enk4 (m + 8)).trans ((pmU_n _ _ (by omega)).trans ((pmU_n _ _ (by omega)).trans hR3.2.2.2.2.2.2.2.2.1)), (congrFun enk4 (m + 9)).trans ((pmU_n _ _ (by omega)).trans ((pmU_n _ _ (by omega)).trans hR3.2.2.2.2.2.2.2.2.2.1)), (congrFun enk4 (m + 10)).trans ((pmU_n _ _ (by omega)).trans ((pmU_n _ _ (by omega)).trans hR3.2.2.2.2.2.2.2.2.2.2.1)), (congrFun enk4 (m + 11)).trans ((pmU_n _ _ (by omega)).trans ((pmU_n _ _ (by omega)).trans hR3.2.2.2.2.2.2.2.2.2.2.2.1)), (congrFun enk4 (m + 12)).trans ((pmU_n _ _ (by omega)).trans ((pmU_n _ _ (by omega)).trans hR3.2.2.2.2.2.2.2.2.2.2.2.2.1)), (congrFun enk4 (m + 13)).trans ((pmU_n _ _ (by omega)).trans ((pmU_n _ _ (by omega)).trans hR3.2.2.2.2.2.2.2.2.2.2.2.2.2.1)), (congrFun enk4 (m + 14)).trans ((pmU_n _ _ (by omega)).trans ((pmU_n _ _ (by omega)).trans hR3.2.2.2.2.2.2.2.2.2.2.2.2.2.2.1)), (congrFun enk4 (m + 15)).trans ((pmU_n _ _ (by omega)).trans ((pmU_n _ _ (by omega)).trans hR3.2.2.2.2.2.2.2.2.2.2.2.2.2.2.2.1)), (congrFun enk4 (m + 16)).trans ((pmU_n _ _ (by omega)).trans ((pmU_n _ _ (by omega)).trans hR3.2.2.2.2.2.2.2.2.2.2.2.2.2.2.2.2))⟩
          have sk4 := s3.trans gsk4
          refine go_iconst (v := 0) dRef_chunk_248 (by decide) ?_
          refine go_iret dRef_chunk_249 rfl rfl ?_ (Nat.le_of_ble_eq_true rfl) (Nat.le_of_ble_eq_true rfl)
          exact ch_bad (K := 4) (by rw [rcV, if_neg (fun q => q hF), if_pos hns, if_pos (show grW (fr p.1 (a + 4)) from c2)]) (by decide) hRk4 sk4 hb rfl rfl
        · refine go_aload_n dRef_chunk_233 rfl ?_
          refine go_getf dRef_chunk_234 qf_Ref_218 (pmU_s _ _ _) rfl ?_
          refine go_top (y := S.2.2 11) (by exact hG.2.1.2.2.2.1) ?_
          refine go_if_eq (tgt := 244) dRef_chunk_237 (fun c6 => ?_) (fun c6 => ?_)
          · refine go_iconst (v := 0) dRef_chunk_244 (by decide) ?_
            refine go_putf dRef_chunk_245 qf_Ref_230 pw_8_40 (pmU_s _ _ _) rfl rfl ?_
            refine go_nm (fun hnk5 enk5 => ?_)
            have gsk5 : Sm hx3 hnk5 m 17 := by rw [enk5]; exact (Sm.put' (Sm.put' (Sm.refl _ _ _) _ (by omega) (by omega)) _ (by omega) (by omega))
            have hRk5 : RfA hnk5 m (upd (upd (upd (upd g 28 4) 33 (nI a)) 27 (g 27 + 0)) 40 0) (A) := ⟨(congrFun enk5 m).trans (pmU_s _ _ _), (congrFun enk5 (m + 1)).trans ((pmU_n _ _ (by omega)).trans ((pmU_n _ _ (by omega)).trans hR3.2.1)), (congrFun enk5 (m + 2)).trans ((pmU_n _ _ (by omega)).trans ((pmU_n _ _ (by omega)).trans hR3.2.2.1)), (congrFun enk5 (m + 3)).trans ((pmU_n _ _ (by omega)).trans ((pmU_n _ _ (by omega)).trans hR3.2.2.2.1)), (congrFun enk5 (m + 4)).trans ((pmU_n _ _ (by omega)).trans ((pmU_n _ _ (by omega)).trans hR3.2.2.2.2.1)), (congrFun enk5 (m + 5)).trans ((pmU_n _ _ (by omega)).trans ((pmU_n _ _ (by omega)).trans hR3.2.2.2.2.2.1)), (congrFun enk5 (m + 6)).trans ((pmU_n _ _ (by omega)).trans ((pmU_n _ _ (by omega)).trans hR3.2.2.2.2.2.2.1)), (congrFun enk5 (m + 7)).trans ((pmU_n _ _ (by omega)).trans ((pmU_n _ _ (by omega)).trans hR3.2.2.2.2.2.2.2.1)), (congrFun enk5 (m + 8)).trans ((pmU_n _ _ (by omega)).trans ((pmU_n _ _ (by omega)).trans hR3.2.2.2.2.2.2.2.2.1)), (congrFun enk5 (m + 9)).trans ((pmU_n _ _ (by omega)).trans ((pmU_n _ _ (by omega)).trans hR3.2.2.2.2.2.2.2.2.2.1)), (congrFun enk5 (m + 10)).trans ((pmU_n _ _ (by omega)).trans ((pmU_n _ _ (by omega)).trans hR3.2.2.2.2.2.2.2.2.2.2.1)), (congrFun enk5 (m + 11)).trans ((pmU_n _ _ (by omega)).trans ((pmU_n _ _ (by omega)).trans hR3.2.2.2.2.2.2.2.2.2.2.2.1)), (congrFun enk5 (m + 12)).trans ((pmU_n _ _ (by omega)).trans ((pmU_n _ _ (by omega)).trans hR3.2.2.2.2.2.2.2.2.2.2.2.2.1)), (congrFun enk5 (m + 13)).trans ((pmU_n _ _ (by omega)).trans ((pmU_n _ _ (by omega)).trans hR3.2.2.2.2.2.2.2.2.2.2.2.2.2.1)), (congrFun enk5 (m + 14)).trans ((pmU_n _ _ (by omega)).trans ((pmU_n _ _ (by omega)).trans hR3.2.2.2.2.2.2.2.2.2.2.2.2.2.2.1)), (congrFun enk5 (m + 15)).trans ((pmU_n _ _ (by omega)).trans ((pmU_n _ _ (by omega)).trans hR3.2.2.2.2.2.2.2.2.2.2.2.2.2.2.2.1)), (congrFun enk5 (m + 16)).trans ((pmU_n _ _ (by omega)).trans ((pmU_n _ _ (by omega)).trans hR3.2.2.2.2.2.2.2.2.2.2.2.2.2.2.2.2))⟩
            have sk5 := s3.trans gsk5
            refine go_iconst (v := 0) dRef_chunk_248 (by decide) ?_
            refine go_iret dRef_chunk_249 rfl rfl ?_ (Nat.le_of_ble_eq_true rfl) (Nat.le_of_ble_eq_true rfl)
            exact ch_bad (K := 4) (by rw [rcV, if_neg (fun q => q hF), if_pos hns, if_pos (show grW (fr p.1 (a + 4)) from c2)]) (by decide) hRk5 sk5 hb rfl rfl
          · refine go_iconst (v := 1) dRef_chunk_240 (by decide) ?_
            refine go_goto (tgt := 245) dRef_chunk_241 ?_
            refine go_putf dRef_chunk_245 qf_Ref_230 pw_8_40 (pmU_s _ _ _) rfl rfl ?_
            refine go_nm (fun hnk6 enk6 => ?_)
            have gsk6 : Sm hx3 hnk6 m 17 := by rw [enk6]; exact (Sm.put' (Sm.put' (Sm.refl _ _ _) _ (by omega) (by omega)) _ (by omega) (by omega))
            have hRk6 : RfA hnk6 m (upd (upd (upd (upd g 28 4) 33 (nI a)) 27 (g 27 + 0)) 40 1) (A) := ⟨(congrFun enk6 m).trans (pmU_s _ _ _), (congrFun enk6 (m + 1)).trans ((pmU_n _ _ (by omega)).trans ((pmU_n _ _ (by omega)).trans hR3.2.1)), (congrFun enk6 (m + 2)).trans ((pmU_n _ _ (by omega)).trans ((pmU_n _ _ (by omega)).trans hR3.2.2.1)), (congrFun enk6 (m + 3)).trans ((pmU_n _ _ (by omega)).trans ((pmU_n _ _ (by omega)).trans hR3.2.2.2.1)), (congrFun enk6 (m + 4)).trans ((pmU_n _ _ (by omega)).trans ((pmU_n _ _ (by omega)).trans hR3.2.2.2.2.1)), (congrFun enk6 (m + 5)).trans ((pmU_n _ _ (by omega)).trans ((pmU_n _ _ (by omega)).trans hR3.2.2.2.2.2.1)), (congrFun enk6 (m + 6)).trans ((pmU_n _ _ (by omega)).trans ((pmU_n _ _ (by omega)).trans hR3.2.2.2.2.2.2.1)), (congrFun enk6 (m + 7)).trans ((pmU_n _ _ (by omega)).trans ((pmU_n _ _ (by omega)).trans hR3.2.2.2.2.2.2.2.1)), (congrFun enk6 (m + 8)).trans ((pmU_n _ _ (by omega)).trans ((pmU_n _ _ (by omega)).trans hR3.2.2.2.2.2.2.2.2.1)), (congrFun enk6 (m + 9)).trans ((pmU_n _ _ (by omega)).trans ((pmU_n _ _ (by omega)).trans hR3.2.2.2.2.2.2.2.2.2.1)), (congrFun enk6 (m + 10)).trans ((pmU_n _ _ (by omega)).trans ((pmU_n _ _ (by omega)).trans hR3.2.2.2.2.2.2.2.2.2.2.1)), (congrFun enk6 (m + 11)).trans ((pmU_n _ _ (by omega)).trans ((pmU_n _ _ (by omega)).trans hR3.2.2.2.2.2.2.2.2.2.2.2.1)), (congrFun enk6 (m + 12)).trans ((pmU_n _ _ (by omega)).trans ((pmU_n _ _ (by omega)).trans hR3.2.2.2.2.2.2.2.2.2.2.2.2.1)), (congrFun enk6 (m + 13)).trans ((pmU_n _ _ (by omega)).trans ((pmU_n _ _ (by omega)).trans hR3.2.2.2.2.2.2.2.2.2.2.2.2.2.1)), (congrFun enk6 (m + 14)).trans ((pmU_n _ _ (by omega)).trans ((pmU_n _ _ (by omega)).trans hR3.2.2.2.2.2.2.2.2.2.2.2.2.2.2.1)), (congrFun enk6 (m + 15)).trans ((pmU_n _ _ (by omega)).trans ((pmU_n _ _ (by omega)).trans hR3.2.2.2.2.2.2.2.2.2.2.2.2.2.2.2.1)), (congrFun enk6 (m + 16)).trans ((pmU_n _ _ (by omega)).trans ((pmU_n _ _ (by omega)).trans hR3.2.2.2.2.2.2.2.2.2.2.2.2.2.2.2.2))⟩
            have sk6 := s3.trans gsk6
            refine go_iconst (v := 0) dRef_chunk_248 (by decide) ?_
            refine go_iret dRef_chunk_249 rfl rfl ?_ (Nat.le_of_ble_eq_true rfl) (Nat.le_of_ble_eq_true rfl)
            exact ch_bad (K := 4) (by rw [rcV, if_neg (fun q => q hF), if_pos hns, if_pos (show grW (fr p.1 (a + 4)) from c2)]) (by decide) hRk6 sk6 hb rfl rfl
set_option maxHeartbeats 4000000 in
theorem r_chunk {E : pmEv} {h : pmH} {z : Option Nat} {m : Nat} {g : Nat → Int32} {A : Nat → Nat → Int32} {o : Bool × aPic} {w p : aRow} {S : aRs} {a : Nat} (ha : a ≤ 4000) (hR : RfA h m g A) (hb : RB g A o w p) (hG : RG g A S a) (hp : p.2 ≤ 2000) (hB : AllB p) : Call E mRef_chunk [.ref m, .int (nI a)] h z 0 0 (RetV (ChQ m h o w p a S) z) := by
  have hs : Sm h h m 17 := Sm.refl _ _ _
  have h13 := hb.2.2.1.2
  have h32 := hb.2.2.1.1
  refine call_of (L := [some (.ref m), some (.int (nI a)), none, none, none, none]) ok_mRef_chunk (Nat.le_of_ble_eq_true rfl) ?_
  refine go_aload_n dRef_chunk_0 rfl ?_
  refine go_aload_n dRef_chunk_1 rfl ?_
  refine go_getf dRef_chunk_2 qf_Ref_196 hR.1 rfl ?_
  refine go_top (y := nI p.2) (by exact h32) ?_
  refine go_iload_n dRef_chunk_5 rfl ?_
  refine go_isub dRef_chunk_6 ?_
  refine go_bipush (v := 12) dRef_chunk_7 (by decide) ?_
  refine go_icmp_ge (tgt := 16) dRef_chunk_9 (fun c1 => ?_) (fun c1 => ?_)
  · refine go_iconst (v := 0) dRef_chunk_16 (by decide) ?_
    refine go_iconst (v := 1) dRef_chunk_17 (by decide) ?_
    refine go_iload_n dRef_chunk_18 rfl ?_
    refine go_virtP dRef_chunk_19 ok_mRef_breakBy im_mRef_breakBy se_mRef_breakBy qm_Ref_280 hR.1 (r_brk0 hR) ?_ (hnp := np_mRef_breakBy)
    refine go_aload_n dRef_chunk_22 rfl ?_
    refine go_getf dRef_chunk_23 qf_Ref_206 hR.1 rfl ?_
    refine go_top (y := 0) (by exact hG.1) ?_
    refine go_if_le (tgt := 31) dRef_chunk_26 (fun _ => ?_) (fun cc => absurd (by decide) cc)
    have f1 := (chunk_n (c := p.2) (p := a) (l := 0) (by omega) (by omega) (by omega)).mp c1
    refine go_aload_n dRef_chunk_31 rfl ?_
    refine go_getf dRef_chunk_32 qf_Ref_49 hR.1 rfl ?_
    refine go_iload_n dRef_chunk_35 rfl ?_
    refine go_statP dRef_chunk_36 ok_mRef_four st_mRef_four qm_Ref_199 (r_four (N := 2000) (f := A 13) (j := a) (by omega) (by omega) hR.2.2.2.2.2.2.2.2.2.2.2.2.2.2.1) ?_ (hnp := np_mRef_four)
    refine go_top (y := fr p.1 a) (by exact fr_ag h13 (by omega)) ?_
    refine go_istore_n dRef_chunk_39 ?_
    refine go_aload_n dRef_chunk_40 rfl ?_
    refine go_iload_n dRef_chunk_41 rfl ?_
    refine go_if_lt (tgt := 52) dRef_chunk_42 (fun c2 => ?_) (fun c2 => ?_)
    · refine go_iconst (v := 1) dRef_chunk_52 (by decide) ?_
      refine go_goto (tgt := 57) dRef_chunk_53 ?_
      refine go_iconst (v := 2) dRef_chunk_57 (by decide) ?_
      refine go_iload_n dRef_chunk_58 rfl ?_
      refine go_virtX dRef_chunk_59 ok_mRef_breakBy im_mRef_breakBy se_mRef_breakBy qm_Ref_280 hR.1 (r_brk1 (g := g) hG.1 hR) (fun hx3 d3 q3 => ?_) (hnp := np_mRef_breakBy)
      obtain ⟨hR3, t3⟩ := q3
      have s3 := hs.trans t3
      refine go_aload_n dRef_chunk_62 rfl ?_
      refine go_aload_n dRef_chunk_63 rfl ?_
      refine go_getf dRef_chunk_64 qf_Ref_206 hR3.1 rfl ?_
      refine go_top (y := 2) (by rfl) ?_
      refine go_if_ne (tgt := 87) dRef_chunk_67 (fun _ => ?_) (fun cc => absurd cc (by decide))
      skip
      refine go_iconst (v := 0) dRef_chunk_87 (by decide) ?_
      refine go_iconst (v := 1) dRef_chunk_88 (by decide) ?_
      refine go_iload_n dRef_chunk_89 rfl ?_
      refine go_virtP dRef_chunk_90 ok_mRef_breakBy im_mRef_breakBy se_mRef_breakBy qm_Ref_280 hR3.1 (r_brk0 hR3) ?_ (hnp := np_mRef_breakBy)
      refine go_aload_n dRef_chunk_93 rfl ?_
      refine go_getf dRef_chunk_94 qf_Ref_49 hR3.1 rfl ?_
      refine go_iload_n dRef_chunk_97 rfl ?_
      refine go_iconst (v := 4) dRef_chunk_98 (by decide) ?_
      refine go_iadd dRef_chunk_99 ?_
      refine go_top (y := nI (a + 4)) (by exact nI_a4 _) ?_
      refine go_statP dRef_chunk_100 ok_mRef_four st_mRef_four qm_Ref_199 (r_four (N := 2000) (f := A 13) (j := a + 4) (by omega) (by omega) hR3.2.2.2.2.2.2.2.2.2.2.2.2.2.2.1) ?_ (hnp := np_mRef_four)
      refine go_top (y := fr p.1 (a + 4)) (by exact fr_ag h13 (by omega)) ?_
      refine go_istore_n dRef_chunk_103 ?_
      refine go_aload_n dRef_chunk_104 rfl ?_
      refine go_iload_n dRef_chunk_105 rfl ?_
      refine go_statP dRef_chunk_106 ok_mRef_areLetters st_mRef_areLetters qm_Ref_121 r_areLetters ?_ (hnp := np_mRef_areLetters)
      refine go_ifne_b (tgt := 116) dRef_chunk_109 (fun c4 => ?_) (fun c4 => ?_)
      · refine go_iconst (v := 0) dRef_chunk_116 (by decide) ?_
        refine go_iconst (v := 3) dRef_chunk_117 (by decide) ?_
        refine go_iload_n dRef_chunk_118 rfl ?_
        refine go_virtP dRef_chunk_119 ok_mRef_breakBy im_mRef_breakBy se_mRef_breakBy qm_Ref_280 hR3.1 (r_brk0 hR3) ?_ (hnp := np_mRef_breakBy)
        refine go_aload_n dRef_chunk_122 rfl ?_
        refine go_getf dRef_chunk_123 qf_Ref_206 hR3.1 rfl ?_
        refine go_top (y := 2) (by rfl) ?_
        refine go_if_le (tgt := 131) dRef_chunk_126 (fun cc => absurd cc (by decide)) (fun _ => ?_)
        refine go_iconst (v := 0) dRef_chunk_129 (by decide) ?_
        refine go_iret dRef_chunk_130 rfl rfl ?_ (Nat.le_of_ble_eq_true rfl) (Nat.le_of_ble_eq_true rfl)
        exact ch_bad (K := 2) (rcV_fr (by rw [frV, if_neg (Nat.not_lt.mpr f1), if_pos (fun q => absurd c2 (Int32.not_lt.mpr q.1))]) (by decide)) (by decide) hR3 s3 hb rfl rfl
      · refine go_iconst (v := 1) dRef_chunk_112 (by decide) ?_
        refine go_goto (tgt := 117) dRef_chunk_113 ?_
        refine go_iconst (v := 3) dRef_chunk_117 (by decide) ?_
        refine go_iload_n dRef_chunk_118 rfl ?_
        refine go_virtP dRef_chunk_119 ok_mRef_breakBy im_mRef_breakBy se_mRef_breakBy qm_Ref_280 hR3.1 (r_brk2 (show ¬ (2 : Int32) = 0 by decide) hR3) ?_ (hnp := np_mRef_breakBy)
        refine go_aload_n dRef_chunk_122 rfl ?_
        refine go_getf dRef_chunk_123 qf_Ref_206 hR3.1 rfl ?_
        refine go_top (y := 2) (by rfl) ?_
        refine go_if_le (tgt := 131) dRef_chunk_126 (fun cc => absurd cc (by decide)) (fun _ => ?_)
        refine go_iconst (v := 0) dRef_chunk_129 (by decide) ?_
        refine go_iret dRef_chunk_130 rfl rfl ?_ (Nat.le_of_ble_eq_true rfl) (Nat.le_of_ble_eq_true rfl)
        exact ch_bad (K := 2) (rcV_fr (by rw [frV, if_neg (Nat.not_lt.mpr f1), if_pos (fun q => absurd c2 (Int32.not_lt.mpr q.1))]) (by decide)) (by decide) hR3 s3 hb rfl rfl
    · refine go_iload_n dRef_chunk_45 rfl ?_
      refine go_sipush (v := 255) dRef_chunk_46 (by decide) ?_
      refine go_icmp_le (tgt := 56) dRef_chunk_49 (fun c3 => ?_) (fun c3 => ?_)
      · refine go_iconst (v := 0) dRef_chunk_56 (by decide) ?_
        refine go_iconst (v := 2) dRef_chunk_57 (by decide) ?_
        refine go_iload_n dRef_chunk_58 rfl ?_
        refine go_virtP dRef_chunk_59 ok_mRef_breakBy im_mRef_breakBy se_mRef_breakBy qm_Ref_280 hR.1 (r_brk0 hR) ?_ (hnp := np_mRef_breakBy)
        refine go_aload_n dRef_chunk_62 rfl ?_
        refine go_aload_n dRef_chunk_63 rfl ?_
        refine go_getf dRef_chunk_64 qf_Ref_206 hR.1 rfl ?_
        refine go_top (y := 0) (by exact hG.1) ?_
        refine go_if_ne (tgt := 87) dRef_chunk_67 (fun cc => absurd rfl cc) (fun _ => ?_)
        obtain ⟨l, hl, el⟩ := len_ex (x := fr p.1 a) ⟨Int32.not_lt.mp c2, c3⟩
        refine go_aload_n dRef_chunk_70 rfl ?_
        refine go_getf dRef_chunk_71 qf_Ref_196 hR.1 rfl ?_
        refine go_top (y := nI p.2) (by exact h32) ?_
        refine go_iload_n dRef_chunk_74 rfl ?_
        refine go_isub dRef_chunk_75 ?_
        refine go_bipush (v := 12) dRef_chunk_76 (by decide) ?_
        refine go_iload_n dRef_chunk_78 rfl ?_
        refine go_iadd dRef_chunk_79 ?_
        refine go_top (y := 12 + nI l) (by rw [el]) ?_
        refine go_icmp_ge (tgt := 87) dRef_chunk_80 (fun c4 => ?_) (fun c4 => ?_)
        · have f4 := (chunk_n (c := p.2) (p := a) (l := l) (by omega) (by omega) (by omega)).mp c4
          refine go_iconst (v := 0) dRef_chunk_87 (by decide) ?_
          refine go_iconst (v := 1) dRef_chunk_88 (by decide) ?_
          refine go_iload_n dRef_chunk_89 rfl ?_
          refine go_virtP dRef_chunk_90 ok_mRef_breakBy im_mRef_breakBy se_mRef_breakBy qm_Ref_280 hR.1 (r_brk0 hR) ?_ (hnp := np_mRef_breakBy)
          refine go_aload_n dRef_chunk_93 rfl ?_
          refine go_getf dRef_chunk_94 qf_Ref_49 hR.1 rfl ?_
          refine go_iload_n dRef_chunk_97 rfl ?_
          refine go_iconst (v := 4) dRef_chunk_98 (by decide) ?_
          refine go_iadd dRef_chunk_99 ?_
          refine go_top (y := nI (a + 4)) (by exact nI_a4 _) ?_
          refine go_statP dRef_chunk_100 ok_mRef_four st_mRef_four qm_Ref_199 (r_four (N := 2000) (f := A 13) (j := a + 4) (by omega) (by omega) hR.2.2.2.2.2.2.2.2.2.2.2.2.2.2.1) ?_ (hnp := np_mRef_four)
          refine go_top (y := fr p.1 (a + 4)) (by exact fr_ag h13 (by omega)) ?_
          refine go_istore_n dRef_chunk_103 ?_
          refine go_aload_n dRef_chunk_104 rfl ?_
          refine go_iload_n dRef_chunk_105 rfl ?_
          refine go_statP dRef_chunk_106 ok_mRef_areLetters st_mRef_areLetters qm_Ref_121 r_areLetters ?_ (hnp := np_mRef_areLetters)
          refine go_ifne_b (tgt := 116) dRef_chunk_109 (fun c5 => ?_) (fun c5 => ?_)
          · refine go_iconst (v := 0) dRef_chunk_116 (by decide) ?_
            refine go_iconst (v := 3) dRef_chunk_117 (by decide) ?_
            refine go_iload_n dRef_chunk_118 rfl ?_
            refine go_virtP dRef_chunk_119 ok_mRef_breakBy im_mRef_breakBy se_mRef_breakBy qm_Ref_280 hR.1 (r_brk0 hR) ?_ (hnp := np_mRef_breakBy)
            refine go_aload_n dRef_chunk_122 rfl ?_
            refine go_getf dRef_chunk_123 qf_Ref_206 hR.1 rfl ?_
            refine go_top (y := 0) (by exact hG.1) ?_
            refine go_if_le (tgt := 131) dRef_chunk_126 (fun _ => ?_) (fun cc => absurd (by decide) cc)
            exact go_at (l_Ref_ch131 (by rw [lnN, el, nI_clamp (by omega)]) f4 (by rw [frV, if_neg (Nat.not_lt.mpr f1), if_neg (fun q => q ⟨Int32.not_lt.mp c2, c3⟩), if_neg (by rw [el, nI_clamp (by omega)]; omega), if_pos c5]) el hl c5 hR hs hb hG hp hB) rfl (by rw [el]; rfl) rfl rfl
          · refine go_iconst (v := 1) dRef_chunk_112 (by decide) ?_
            refine go_goto (tgt := 117) dRef_chunk_113 ?_
            refine go_iconst (v := 3) dRef_chunk_117 (by decide) ?_
            refine go_iload_n dRef_chunk_118 rfl ?_
            refine go_virtX dRef_chunk_119 ok_mRef_breakBy im_mRef_breakBy se_mRef_breakBy qm_Ref_280 hR.1 (r_brk1 (g := g) hG.1 hR) (fun hx6 d6 q6 => ?_) (hnp := np_mRef_breakBy)
            obtain ⟨hR6, t6⟩ := q6
            have s6 := hs.trans t6
            refine go_aload_n dRef_chunk_122 rfl ?_
            refine go_getf dRef_chunk_123 qf_Ref_206 hR6.1 rfl ?_
            refine go_top (y := 3) (by rfl) ?_
            refine go_if_le (tgt := 131) dRef_chunk_126 (fun cc => absurd cc (by decide)) (fun _ => ?_)
            refine go_iconst (v := 0) dRef_chunk_129 (by decide) ?_
            refine go_iret dRef_chunk_130 rfl rfl ?_ (Nat.le_of_ble_eq_true rfl) (Nat.le_of_ble_eq_true rfl)
            exact ch_bad (K := 3) (rcV_fr (by rw [frV, if_neg (Nat.not_lt.mpr f1), if_neg (fun q => q ⟨Int32.not_lt.mp c2, c3⟩), if_neg (by rw [el, nI_clamp (by omega)]; omega), if_neg c5]) (by decide)) (by decide) hR6 s6 hb rfl rfl
        · refine go_iconst (v := 1) dRef_chunk_83 (by decide) ?_
          refine go_goto (tgt := 88) dRef_chunk_84 ?_
          refine go_iconst (v := 1) dRef_chunk_88 (by decide) ?_
          refine go_iload_n dRef_chunk_89 rfl ?_
          refine go_virtX dRef_chunk_90 ok_mRef_breakBy im_mRef_breakBy se_mRef_breakBy qm_Ref_280 hR.1 (r_brk1 (g := g) hG.1 hR) (fun hx5 d5 q5 => ?_) (hnp := np_mRef_breakBy)
          obtain ⟨hR5, t5⟩ := q5
          have s5 := hs.trans t5
          refine go_aload_n dRef_chunk_93 rfl ?_
          refine go_getf dRef_chunk_94 qf_Ref_49 hR5.1 rfl ?_
          refine go_iload_n dRef_chunk_97 rfl ?_
          refine go_iconst (v := 4) dRef_chunk_98 (by decide) ?_
          refine go_iadd dRef_chunk_99 ?_
          refine go_top (y := nI (a + 4)) (by exact nI_a4 _) ?_
          refine go_statP dRef_chunk_100 ok_mRef_four st_mRef_four qm_Ref_199 (r_four (N := 2000) (f := A 13) (j := a + 4) (by omega) (by omega) hR5.2.2.2.2.2.2.2.2.2.2.2.2.2.2.1) ?_ (hnp := np_mRef_four)
          refine go_top (y := fr p.1 (a + 4)) (by exact fr_ag h13 (by omega)) ?_
          refine go_istore_n dRef_chunk_103 ?_
          refine go_aload_n dRef_chunk_104 rfl ?_
          refine go_iload_n dRef_chunk_105 rfl ?_
          refine go_statP dRef_chunk_106 ok_mRef_areLetters st_mRef_areLetters qm_Ref_121 r_areLetters ?_ (hnp := np_mRef_areLetters)
          refine go_ifne_b (tgt := 116) dRef_chunk_109 (fun c6 => ?_) (fun c6 => ?_)
          · refine go_iconst (v := 0) dRef_chunk_116 (by decide) ?_
            refine go_iconst (v := 3) dRef_chunk_117 (by decide) ?_
            refine go_iload_n dRef_chunk_118 rfl ?_
            refine go_virtP dRef_chunk_119 ok_mRef_breakBy im_mRef_breakBy se_mRef_breakBy qm_Ref_280 hR5.1 (r_brk0 hR5) ?_ (hnp := np_mRef_breakBy)
            refine go_aload_n dRef_chunk_122 rfl ?_
            refine go_getf dRef_chunk_123 qf_Ref_206 hR5.1 rfl ?_
            refine go_top (y := 1) (by rfl) ?_
            refine go_if_le (tgt := 131) dRef_chunk_126 (fun cc => absurd cc (by decide)) (fun _ => ?_)
            refine go_iconst (v := 0) dRef_chunk_129 (by decide) ?_
            refine go_iret dRef_chunk_130 rfl rfl ?_ (Nat.le_of_ble_eq_true rfl) (Nat.le_of_ble_eq_true rfl)
            exact ch_bad (K := 1) (rcV_fr (by rw [frV, if_neg (Nat.not_lt.mpr f1), if_neg (fun q => q ⟨Int32.not_lt.mp c2, c3⟩), if_pos (by rw [el, nI_clamp (by omega)]; exact Nat.not_le.mp fun q => c4 ((chunk_n (c := p.2) (p := a) (l := l) (by omega) (by omega) (by omega)).mpr q))]) (by decide)) (by decide) hR5 s5 hb rfl rfl
          · refine go_iconst (v := 1) dRef_chunk_112 (by decide) ?_
            refine go_goto (tgt := 117) dRef_chunk_113 ?_
            refine go_iconst (v := 3) dRef_chunk_117 (by decide) ?_
            refine go_iload_n dRef_chunk_118 rfl ?_
            refine go_virtP dRef_chunk_119 ok_mRef_breakBy im_mRef_breakBy se_mRef_breakBy qm_Ref_280 hR5.1 (r_brk2 (show ¬ (1 : Int32) = 0 by decide) hR5) ?_ (hnp := np_mRef_breakBy)
            refine go_aload_n dRef_chunk_122 rfl ?_
            refine go_getf dRef_chunk_123 qf_Ref_206 hR5.1 rfl ?_
            refine go_top (y := 1) (by rfl) ?_
            refine go_if_le (tgt := 131) dRef_chunk_126 (fun cc => absurd cc (by decide)) (fun _ => ?_)
            refine go_iconst (v := 0) dRef_chunk_129 (by decide) ?_
            refine go_iret dRef_chunk_130 rfl rfl ?_ (Nat.le_of_ble_eq_true rfl) (Nat.le_of_ble_eq_true rfl)
            exact ch_bad (K := 1) (rcV_fr (by rw [frV, if_neg (Nat.not_lt.mpr f1), if_neg (fun q => q ⟨Int32.not_lt.mp c2, c3⟩), if_pos (by rw [el, nI_clamp (by omega)]; exact Nat.not_le.mp fun q => c4 ((chunk_n (c := p.2) (p := a) (l := l) (by omega) (by omega) (by omega)).mpr q))]) (by decide)) (by decide) hR5 s5 hb rfl rfl
      · refine go_iconst (v := 1) dRef_chunk_52 (by decide) ?_
        refine go_goto (tgt := 57) dRef_chunk_53 ?_
        refine go_iconst (v := 2) dRef_chunk_57 (by decide) ?_
        refine go_iload_n dRef_chunk_58 rfl ?_
        refine go_virtX dRef_chunk_59 ok_mRef_breakBy im_mRef_breakBy se_mRef_breakBy qm_Ref_280 hR.1 (r_brk1 (g := g) hG.1 hR) (fun hx4 d4 q4 => ?_) (hnp := np_mRef_breakBy)
        obtain ⟨hR4, t4⟩ := q4
        have s4 := hs.trans t4
        refine go_aload_n dRef_chunk_62 rfl ?_
        refine go_aload_n dRef_chunk_63 rfl ?_
        refine go_getf dRef_chunk_64 qf_Ref_206 hR4.1 rfl ?_
        refine go_top (y := 2) (by rfl) ?_
        refine go_if_ne (tgt := 87) dRef_chunk_67 (fun _ => ?_) (fun cc => absurd cc (by decide))
        skip
        refine go_iconst (v := 0) dRef_chunk_87 (by decide) ?_
        refine go_iconst (v := 1) dRef_chunk_88 (by decide) ?_
        refine go_iload_n dRef_chunk_89 rfl ?_
        refine go_virtP dRef_chunk_90 ok_mRef_breakBy im_mRef_breakBy se_mRef_breakBy qm_Ref_280 hR4.1 (r_brk0 hR4) ?_ (hnp := np_mRef_breakBy)
        refine go_aload_n dRef_chunk_93 rfl ?_
        refine go_getf dRef_chunk_94 qf_Ref_49 hR4.1 rfl ?_
        refine go_iload_n dRef_chunk_97 rfl ?_
        refine go_iconst (v := 4) dRef_chunk_98 (by decide) ?_
        refine go_iadd dRef_chunk_99 ?_
        refine go_top (y := nI (a + 4)) (by exact nI_a4 _) ?_
        refine go_statP dRef_chunk_100 ok_mRef_four st_mRef_four qm_Ref_199 (r_four (N := 2000) (f := A 13) (j := a + 4) (by omega) (by omega) hR4.2.2.2.2.2.2.2.2.2.2.2.2.2.2.1) ?_ (hnp := np_mRef_four)
        refine go_top (y := fr p.1 (a + 4)) (by exact fr_ag h13 (by omega)) ?_
        refine go_istore_n dRef_chunk_103 ?_
        refine go_aload_n dRef_chunk_104 rfl ?_
        refine go_iload_n dRef_chunk_105 rfl ?_
        refine go_statP dRef_chunk_106 ok_mRef_areLetters st_mRef_areLetters qm_Ref_121 r_areLetters ?_ (hnp := np_mRef_areLetters)
        refine go_ifne_b (tgt := 116) dRef_chunk_109 (fun c5 => ?_) (fun c5 => ?_)
        · refine go_iconst (v := 0) dRef_chunk_116 (by decide) ?_
          refine go_iconst (v := 3) dRef_chunk_117 (by decide) ?_
          refine go_iload_n dRef_chunk_118 rfl ?_
          refine go_virtP dRef_chunk_119 ok_mRef_breakBy im_mRef_breakBy se_mRef_breakBy qm_Ref_280 hR4.1 (r_brk0 hR4) ?_ (hnp := np_mRef_breakBy)
          refine go_aload_n dRef_chunk_122 rfl ?_
          refine go_getf dRef_chunk_123 qf_Ref_206 hR4.1 rfl ?_
          refine go_top (y := 2) (by rfl) ?_
          refine go_if_le (tgt := 131) dRef_chunk_126 (fun cc => absurd cc (by decide)) (fun _ => ?_)
          refine go_iconst (v := 0) dRef_chunk_129 (by decide) ?_
          refine go_iret dRef_chunk_130 rfl rfl ?_ (Nat.le_of_ble_eq_true rfl) (Nat.le_of_ble_eq_true rfl)
          exact ch_bad (K := 2) (rcV_fr (by rw [frV, if_neg (Nat.not_lt.mpr f1), if_pos (fun q => c3 q.2)]) (by decide)) (by decide) hR4 s4 hb rfl rfl
        · refine go_iconst (v := 1) dRef_chunk_112 (by decide) ?_
          refine go_goto (tgt := 117) dRef_chunk_113 ?_
          refine go_iconst (v := 3) dRef_chunk_117 (by decide) ?_
          refine go_iload_n dRef_chunk_118 rfl ?_
          refine go_virtP dRef_chunk_119 ok_mRef_breakBy im_mRef_breakBy se_mRef_breakBy qm_Ref_280 hR4.1 (r_brk2 (show ¬ (2 : Int32) = 0 by decide) hR4) ?_ (hnp := np_mRef_breakBy)
          refine go_aload_n dRef_chunk_122 rfl ?_
          refine go_getf dRef_chunk_123 qf_Ref_206 hR4.1 rfl ?_
          refine go_top (y := 2) (by rfl) ?_
          refine go_if_le (tgt := 131) dRef_chunk_126 (fun cc => absurd cc (by decide)) (fun _ => ?_)
          refine go_iconst (v := 0) dRef_chunk_129 (by decide) ?_
          refine go_iret dRef_chunk_130 rfl rfl ?_ (Nat.le_of_ble_eq_true rfl) (Nat.le_of_ble_eq_true rfl)
          exact ch_bad (K := 2) (rcV_fr (by rw [frV, if_neg (Nat.not_lt.mpr f1), if_pos (fun q => c3 q.2)]) (by decide)) (by decide) hR4 s4 hb rfl rfl
  · refine go_iconst (v := 1) dRef_chunk_12 (by decide) ?_
    refine go_goto (tgt := 17) dRef_chunk_13 ?_
    refine go_iconst (v := 1) dRef_chunk_17 (by decide) ?_
    refine go_iload_n dRef_chunk_18 rfl ?_
    refine go_virtX dRef_chunk_19 ok_mRef_breakBy im_mRef_breakBy se_mRef_breakBy qm_Ref_280 hR.1 (r_brk1 (g := g) hG.1 hR) (fun hx2 d2 q2 => ?_) (hnp := np_mRef_breakBy)
    obtain ⟨hR2, t2⟩ := q2
    have s2 := hs.trans t2
    refine go_aload_n dRef_chunk_22 rfl ?_
    refine go_getf dRef_chunk_23 qf_Ref_206 hR2.1 rfl ?_
    refine go_top (y := 1) (by rfl) ?_
    refine go_if_le (tgt := 31) dRef_chunk_26 (fun cc => absurd cc (by decide)) (fun _ => ?_)
    refine go_iconst (v := 0) dRef_chunk_29 (by decide) ?_
    refine go_iret dRef_chunk_30 rfl rfl ?_ (Nat.le_of_ble_eq_true rfl) (Nat.le_of_ble_eq_true rfl)
    exact ch_bad (K := 1) (rcV_fr (by rw [frV, if_pos (Nat.not_le.mp fun q => c1 ((chunk_n (c := p.2) (p := a) (l := 0) (by omega) (by omega) (by omega)).mpr (by omega)))]) (by decide)) (by decide) hR2 s2 hb rfl rfl
