/-! ===== the reference: what holds while it reads (by wip/whole/gen_rRd.py) ===== -/
def RB (g : Nat → Int32) (A : Nat → Nat → Int32) (o : Bool × aPic) (w p : aRow) : Prop := RO g A o.1 o.2 ∧ RW g A w ∧ RF g A p ∧ g 0 = 0
/-- a picture that may be, but for its samples -/
def IvH (π : aPic) : Prop := okN π.1 ∧ (π.2.2.1.2 ≤ 64 ∧ (π.1.2.2.2 = 3 → π.2.2.1.2 ≤ min 64 (2 ^ π.1.2.2.1)) ∧ ∀ j, j < 4 * π.2.2.1.2 → byt (π.2.2.1.1 j)) ∧ (π.2.2.2.2.2.2.2 ≤ 6 ∧ (∀ k, k < π.2.2.2.2.2.2.2 → exOk (π.2.2.2.2.1 k) ∧ ∀ i, i < π.2.2.2.2.2.1 k → byt (π.2.2.2.2.2.2.1 (40 * k + i)))) ∧ (π.2.2.2.1 1 = -1 ∨ byt (π.2.2.2.1 1))
def RGh (g : Nat → Int32) (A : Nat → Nat → Int32) (π : aPic) : Prop := (g 15 = nI π.1.1 ∧ g 16 = nI π.1.2.1 ∧ g 17 = nI π.1.2.2.1 ∧ g 18 = nI π.1.2.2.2) ∧ Ag 3 (A 8) π.2.2.2.1 ∧ (g 20 = nI π.2.2.1.2 ∧ Ag (4 * π.2.2.1.2) (A 7) π.2.2.1.1) ∧ (g 23 = nI π.2.2.2.2.2.2.2 ∧ eAr π.2.2.2.2 (A 9) (A 10) (A 11))
def RG (g : Nat → Int32) (A : Nat → Nat → Int32) (S : aRs) (a : Nat) : Prop := g 28 = 0 ∧ (g 36 = S.2.2 8 ∧ g 37 = S.2.2 9 ∧ g 38 = S.2.2 10 ∧ g 39 = S.2.2 11 ∧ g 40 = S.2.2 12) ∧ (g 35 = nI S.2.1.2 ∧ Ag S.2.1.2 (A 14) S.2.1.1 ∧ AllB S.2.1) ∧ g 27 = S.2.2 4 ∧ (S.2.2 8 = 0 → g 20 = 0 ∧ g 23 = 0 ∧ ∀ t, t < 3 → A 8 t = -1 ∧ A 15 t = 0) ∧ (¬ S.2.2 8 = 0 → S.1.1 = true ∧ RGh g A S.1.2 ∧ IvH S.1.2 ∧ ∀ t, t < 3 → A 15 t = bI (¬ S.1.2.2.2.2.1 t = -1)) ∧ RInv S a ∧ (¬ S.2.2 12 = 0 → ¬ S.2.2 11 = 0)
theorem RG.hd {g : Nat → Int32} {A : Nat → Nat → Int32} {S : aRs} {a : Nat} (hG : RG g A S a) (h8 : ¬ S.2.2 8 = 0) : S.1.1 = true ∧ RGh g A S.1.2 ∧ IvH S.1.2 ∧ ∀ t, t < 3 → A 15 t = bI (¬ S.1.2.2.2.2.1 t = -1) := hG.2.2.2.2.2.1 h8
theorem nI_nm {t : Nat} (h : t < 2 ^ 31) : ¬ nI t = -1 := fun q => by
  have := nI_pos' h
  rw [q] at this
  exact absurd this (by decide)
def TkP (m : Nat) (h : pmH) (o : Bool × aPic) (w p : aRow) (ok : Prop) (S : aRs) (a : Nat) : pmH → Prop := fun h' => ∃ g A, RfA h' m g A ∧ Sm h h' m 17 ∧ RB g A o w p ∧ g 28 = 0 ∧ (ok → RG g A S a)
theorem tk_no {m : Nat} {h h' : pmH} {z : Option Nat} {d : Bool} {o : Bool × aPic} {w p : aRow} {ok : Prop} [Decidable ok] {S : aRs} {a : Nat} {g : Nat → Int32} {A : Nat → Nat → Int32} (hn : ¬ ok) (hR : RfA h' m g A) (hs : Sm h h' m 17) (hb : RB g A o w p) (h28 : g 28 = 0) : RetX (some (.int (bI ok))) (TkP m h o w p ok S a) z (.inl (some (.int 0))) (h', z, d) := retX_e (by rw [bI_f hn]) ⟨g, A, hR, hs, hb, h28, fun q => absurd q hn⟩
theorem tk_yes {m : Nat} {h h' : pmH} {z : Option Nat} {d : Bool} {o : Bool × aPic} {w p : aRow} {ok : Prop} [Decidable ok] {S : aRs} {a : Nat} {g : Nat → Int32} {A : Nat → Nat → Int32} (hy : ok) (hR : RfA h' m g A) (hs : Sm h h' m 17) (hb : RB g A o w p) (hG : RG g A S a) : RetX (some (.int (bI ok))) (TkP m h o w p ok S a) z (.inl (some (.int 1))) (h', z, d) := retX_e (by rw [bI_t hy]) ⟨g, A, hR, hs, hb, hG.1, fun _ => hG⟩
theorem sum3 {x y u : Int32} (hx : byt x) (hy : byt y) (hu : byt u) (h : x + y + u ≤ 0) : x = 0 ∧ y = 0 ∧ u = 0 := by
  obtain ⟨a, ha, rfl⟩ := len_ex hx
  obtain ⟨b, hb, rfl⟩ := len_ex hy
  obtain ⟨c, hc, rfl⟩ := len_ex hu
  rw [nI_add, nI_add] at h
  have := (nI_leI (b := 0) (by omega) (by omega)).mp h
  obtain rfl : a = 0 := by omega
  obtain rfl : b = 0 := by omega
  obtain rfl : c = 0 := by omega
  exact ⟨rfl, rfl, rfl⟩
theorem RInv.le {S : aRs} {a b : Nat} (h : RInv S a) (hab : a ≤ b) : RInv S b := ⟨h.1, h.2.1, Nat.le_trans h.2.2 hab⟩
theorem RG.head {g : Nat → Int32} {A : Nat → Nat → Int32} {S : aRs} {p : aRow} {a b : Nat} (hG : RG g A S a) (h8 : S.2.2 8 = 0) (hd : okHead (fr p.1 (a + 8)) (fr p.1 (a + 8 + 4)) (p.1 (a + 8 + 8)) (p.1 (a + 8 + 9))) (hab : a ≤ b) : RG (upd (upd (upd (upd (upd g 36 1) 15 (fr p.1 (a + 8))) 16 (fr p.1 (a + 8 + 4))) 17 (p.1 (a + 8 + 8))) 18 (p.1 (a + 8 + 9))) A (hdS p a S) b := by
  obtain ⟨w, hh, c, k, hok, e1, e2, e3, e4⟩ := okHead_n hd
  obtain ⟨n1, n2, n3⟩ := hG.2.2.2.2.1 h8
  have h1 := hok.w
  have h3 := hok.b
  have h4 := hok.k
  simp only at h1 h3 h4
  have eS : hdS p a S = ((true, piNew (w, hh, c, k) S.1.2), S.2.1, upd S.2.2 8 1) := by
    unfold hdS
    rw [e1, e2, e3, e4, nI_clamp (by omega), nI_clamp (by omega), nI_clamp (by omega), nI_clamp (by omega)]
  rw [eS, e1, e2, e3, e4]
  refine ⟨hG.1, ⟨rfl, hG.2.1.2⟩, hG.2.2.1, hG.2.2.2.1, fun q => absurd q (by show ¬ (1 : Int32) = 0; decide), fun _ => ⟨rfl, ⟨⟨rfl, rfl, rfl, rfl⟩, fun t ht => (n3 t ht).1, ⟨n1, fun j hj => absurd hj (Nat.not_lt_zero _)⟩, ⟨n2, eAr_0⟩⟩, ⟨hok, ⟨Nat.zero_le _, fun _ => Nat.zero_le _, fun j hj => absurd hj (Nat.not_lt_zero _)⟩, ⟨Nat.zero_le _, fun k hk => absurd hk (Nat.not_lt_zero _)⟩, Or.inl rfl⟩, fun t ht => (n3 t ht).2.trans (bI_f (fun q => q rfl)).symm⟩, ⟨fun _ _ => rfl, (hG.2.2.2.2.2.2.1.le hab).2⟩, hG.2.2.2.2.2.2.2⟩
theorem tgOk_m {x v : Int32} (h : tgOk x v) : ¬ v = -1 := fun q => by
  subst q
  rcases h with h | h
  · exact absurd h.2.1 (by decide)
  · exact absurd h.2 (by decide)
def tgV (p : aRow) (a t : Nat) : Int32 := if t = 1 then p.1 (a + 8) else fr p.1 (a + 8)
abbrev tgK (p : aRow) (a l t : Nat) : Prop := l = (if t = 0 then 4 else if t = 1 then 1 else 9) ∧ tgOk (nI t) (tgV p a t) ∧ (t < 2 ∨ fr p.1 (a + 8 + 4) = tgV p a t ∧ p.1 (a + 8 + 8) = 1)
theorem RG.tag {g : Nat → Int32} {A : Nat → Nat → Int32} {S : aRs} {a b t : Nat} {v : Int32} (hG : RG g A S a) (h8 : ¬ S.2.2 8 = 0) (ht : t < 3) (hv : ¬ v = -1) (h1 : t = 1 → byt v) (hab : a ≤ b) : RG g (uA (uA A 15 (upd (A 15) t 1)) 8 (upd (A 8) t v)) ((S.1.1, tgS S.1.2 t v), S.2) b := by
  obtain ⟨q1, q2, q3, q4⟩ := hG.hd h8
  refine ⟨hG.1, hG.2.1, hG.2.2.1, hG.2.2.2.1, fun q => absurd q h8, fun _ => ⟨q1, ⟨q2.1, q2.2.1.up t v, q2.2.2.1, q2.2.2.2⟩, ⟨q3.1, q3.2.1, q3.2.2.1, ?_⟩, fun k hk => ?_⟩, hG.2.2.2.2.2.2.1.le hab, hG.2.2.2.2.2.2.2⟩
  · show upd S.1.2.2.2.2.1 t v 1 = -1 ∨ byt (upd S.1.2.2.2.2.1 t v 1)
    by_cases e : 1 = t
    · subst e; rw [pk_us]; exact Or.inr (h1 rfl)
    · rw [pk_un e]; exact q3.2.2.2
  · show upd (A 15) t 1 k = bI (¬ upd S.1.2.2.2.2.1 t v k = -1)
    by_cases e : k = t
    · subst e; rw [pk_us, bI_t (by rw [pk_us]; exact hv)]
    · rw [pk_un e, q4 k hk]
      exact bI_c (by rw [pk_un e])
set_option maxHeartbeats 4000000 in
theorem r_brk0 {E : pmEv} {h : pmH} {z : Option Nat} {m : Nat} {g : Nat → Int32} {A : Nat → Nat → Int32} {u v : Int32} (hR : RfA h m g A) : Call E mRef_breakBy [.ref m, .int 0, .int u, .int v] h z 0 0 (Ret none (h, z, false)) := by
  refine call_of (L := [some (.ref m), some (.int 0), some (.int u), some (.int v)]) ok_mRef_breakBy (Nat.le_of_ble_eq_true rfl) ?_
  refine go_iload_n dRef_breakBy_0 rfl ?_
  refine go_if_eq (tgt := 21) dRef_breakBy_1 (fun _ => ?_) (fun cc => absurd (by decide) cc)
  refine go_vret dRef_breakBy_21 rfl ?_ (Nat.le_of_ble_eq_true rfl) (Nat.le_of_ble_eq_true rfl)
  exact ret_v
set_option maxHeartbeats 4000000 in
theorem r_brk1 {E : pmEv} {h : pmH} {z : Option Nat} {m : Nat} {g : Nat → Int32} {A : Nat → Nat → Int32} {u v : Int32} (h28 : g 28 = 0) (hR : RfA h m g A) : Call E mRef_breakBy [.ref m, .int 1, .int u, .int v] h z 0 0 (RetX none (fun h' => RfA h' m (upd (upd g 28 u) 33 v) A ∧ Sm h h' m 17) z) := by
  have hs : Sm h h m 17 := Sm.refl _ _ _
  refine call_of (L := [some (.ref m), some (.int 1), some (.int u), some (.int v)]) ok_mRef_breakBy (Nat.le_of_ble_eq_true rfl) ?_
  refine go_iload_n dRef_breakBy_0 rfl ?_
  refine go_if_eq (tgt := 21) dRef_breakBy_1 (fun cc => absurd cc (by decide)) (fun _ => ?_)
  refine go_aload_n dRef_breakBy_4 rfl ?_
  refine go_getf dRef_breakBy_5 qf_Ref_206 hR.1 rfl ?_
  refine go_if_ne (tgt := 21) dRef_breakBy_8 (fun c1 => ?_) (fun c1 => ?_)
  · skip
    refine go_vret dRef_breakBy_21 rfl ?_ (Nat.le_of_ble_eq_true rfl) (Nat.le_of_ble_eq_true rfl)
    exact absurd h28 c1
  · refine go_aload_n dRef_breakBy_11 rfl ?_
    refine go_iload_n dRef_breakBy_12 rfl ?_
    refine go_putf dRef_breakBy_13 qf_Ref_206 pw_8_28 hR.1 rfl rfl ?_
    refine go_aload_n dRef_breakBy_16 rfl ?_
    refine go_iload_n dRef_breakBy_17 rfl ?_
    refine go_putf dRef_breakBy_18 qf_Ref_209 pw_8_33 (pmU_s _ _ _) rfl rfl ?_
    refine go_nm (fun hnk1 enk1 => ?_)
    have gsk1 : Sm h hnk1 m 17 := by rw [enk1]; exact (Sm.put' (Sm.put' (Sm.refl _ _ _) _ (by omega) (by omega)) _ (by omega) (by omega))
    have hRk1 : RfA hnk1 m (upd (upd g 28 u) 33 v) (A) := ⟨(congrFun enk1 m).trans (pmU_s _ _ _), (congrFun enk1 (m + 1)).trans ((pmU_n _ _ (by omega)).trans ((pmU_n _ _ (by omega)).trans hR.2.1)), (congrFun enk1 (m + 2)).trans ((pmU_n _ _ (by omega)).trans ((pmU_n _ _ (by omega)).trans hR.2.2.1)), (congrFun enk1 (m + 3)).trans ((pmU_n _ _ (by omega)).trans ((pmU_n _ _ (by omega)).trans hR.2.2.2.1)), (congrFun enk1 (m + 4)).trans ((pmU_n _ _ (by omega)).trans ((pmU_n _ _ (by omega)).trans hR.2.2.2.2.1)), (congrFun enk1 (m + 5)).trans ((pmU_n _ _ (by omega)).trans ((pmU_n _ _ (by omega)).trans hR.2.2.2.2.2.1)), (congrFun enk1 (m + 6)).trans ((pmU_n _ _ (by omega)).trans ((pmU_n _ _ (by omega)).trans hR.2.2.2.2.2.2.1)), (congrFun enk1 (m + 7)).trans ((pmU_n _ _ (by omega)).trans ((pmU_n _ _ (by omega)).trans hR.2.2.2.2.2.2.2.1)), (congrFun enk1 (m + 8)).trans ((pmU_n _ _ (by omega)).trans ((pmU_n _ _ (by omega)).trans hR.2.2.2.2.2.2.2.2.1)), (congrFun enk1 (m + 9)).trans ((pmU_n _ _ (by omega)).trans ((pmU_n _ _ (by omega)).trans hR.2.2.2.2.2.2.2.2.2.1)), (congrFun enk1 (m + 10)).trans ((pmU_n _ _ (by omega)).trans ((pmU_n _ _ (by omega)).trans hR.2.2.2.2.2.2.2.2.2.2.1)), (congrFun enk1 (m + 11)).trans ((pmU_n _ _ (by omega)).trans ((pmU_n _ _ (by omega)).trans hR.2.2.2.2.2.2.2.2.2.2.2.1)), (congrFun enk1 (m + 12)).trans ((pmU_n _ _ (by omega)).trans ((pmU_n _ _ (by omega)).trans hR.2.2.2.2.2.2.2.2.2.2.2.2.1)), (congrFun enk1 (m + 13)).trans ((pmU_n _ _ (by omega)).trans ((pmU_n _ _ (by omega)).trans hR.2.2.2.2.2.2.2.2.2.2.2.2.2.1)), (congrFun enk1 (m + 14)).trans ((pmU_n _ _ (by omega)).trans ((pmU_n _ _ (by omega)).trans hR.2.2.2.2.2.2.2.2.2.2.2.2.2.2.1)), (congrFun enk1 (m + 15)).trans ((pmU_n _ _ (by omega)).trans ((pmU_n _ _ (by omega)).trans hR.2.2.2.2.2.2.2.2.2.2.2.2.2.2.2.1)), (congrFun enk1 (m + 16)).trans ((pmU_n _ _ (by omega)).trans ((pmU_n _ _ (by omega)).trans hR.2.2.2.2.2.2.2.2.2.2.2.2.2.2.2.2))⟩
    have sk1 := hs.trans gsk1
    refine go_vret dRef_breakBy_21 rfl ?_ (Nat.le_of_ble_eq_true rfl) (Nat.le_of_ble_eq_true rfl)
    exact retX ⟨hRk1, sk1⟩
set_option maxHeartbeats 4000000 in
theorem r_brk2 {E : pmEv} {h : pmH} {z : Option Nat} {m : Nat} {g : Nat → Int32} {A : Nat → Nat → Int32} {s u v : Int32} (h28 : ¬ g 28 = 0) (hR : RfA h m g A) : Call E mRef_breakBy [.ref m, .int s, .int u, .int v] h z 0 0 (Ret none (h, z, false)) := by
  refine call_of (L := [some (.ref m), some (.int s), some (.int u), some (.int v)]) ok_mRef_breakBy (Nat.le_of_ble_eq_true rfl) ?_
  refine go_iload_n dRef_breakBy_0 rfl ?_
  refine go_if_eq (tgt := 21) dRef_breakBy_1 (fun c1 => ?_) (fun c1 => ?_)
  · refine go_vret dRef_breakBy_21 rfl ?_ (Nat.le_of_ble_eq_true rfl) (Nat.le_of_ble_eq_true rfl)
    exact ret_v
  · refine go_aload_n dRef_breakBy_4 rfl ?_
    refine go_getf dRef_breakBy_5 qf_Ref_206 hR.1 rfl ?_
    refine go_if_ne (tgt := 21) dRef_breakBy_8 (fun c2 => ?_) (fun c2 => ?_)
    · refine go_vret dRef_breakBy_21 rfl ?_ (Nat.le_of_ble_eq_true rfl) (Nat.le_of_ble_eq_true rfl)
      exact ret_v
    · exact absurd c2 h28
set_option maxHeartbeats 4000000 in
theorem l_Ref_isOut3 {E : pmEv} {h0 h : pmH} {z : Option Nat} {m : Nat} {g : Nat → Int32} {A : Nat → Nat → Int32} {S : aRs} {a : Nat} {x : Int32} {t : Nat} (ht : t < 3) (hx : tgN x = nI t) (h8 : ¬ S.2.2 8 = 0) (hq : ordW S.2.2 S.1.2 ↔ (¬ S.2.2 11 = 0 ∨ ¬ S.1.2.2.2.2.1 t = -1 ∨ (t < 2 ∧ ¬ S.2.2 9 = 0))) (hR : RfA h m g A) (hG : RG g A S a) : Go E (mRef_isOutOfOrder, h0, 0, 0) 32 [some (.ref m), some (.int x), none] [] (h, z, false) 0 0 (Ret (some (.int (bI (ordW S.2.2 S.1.2)))) (h, z, false)) := by
  have e15 := (hG.hd h8).2.2.2
  refine go_iload_n dRef_isOutOfOrder_32 rfl ?_
  refine go_statP dRef_isOutOfOrder_33 ok_mRef_tagOf st_mRef_tagOf qm_Ref_215 r_tagOf ?_ (hnp := np_mRef_tagOf)
  refine go_top (y := nI t) (by exact hx) ?_
  refine go_istore_n dRef_isOutOfOrder_36 ?_
  refine go_iload_n dRef_isOutOfOrder_37 rfl ?_
  refine go_iconst (v := -1) dRef_isOutOfOrder_38 (by decide) ?_
  refine go_icmp_eq (tgt := 76) dRef_isOutOfOrder_39 (fun c1 => ?_) (fun c1 => ?_)
  · exact absurd c1 (nI_nm (by omega))
  · refine go_aload_n dRef_isOutOfOrder_42 rfl ?_
    refine go_getf dRef_isOutOfOrder_43 qf_Ref_218 hR.1 rfl ?_
    refine go_top (y := S.2.2 11) (by exact hG.2.1.2.2.2.1) ?_
    refine go_if_ne (tgt := 70) dRef_isOutOfOrder_46 (fun c2 => ?_) (fun c2 => ?_)
    · refine go_iconst (v := 1) dRef_isOutOfOrder_70 (by decide) ?_
      refine go_goto (tgt := 75) dRef_isOutOfOrder_71 ?_
      refine go_iret dRef_isOutOfOrder_75 rfl rfl ?_ (Nat.le_of_ble_eq_true rfl) (Nat.le_of_ble_eq_true rfl)
      exact ret_e (congrArg (fun v => some (Value.int v)) (bI_t (hq.mpr (Or.inl c2))).symm)
    · refine go_aload_n dRef_isOutOfOrder_49 rfl ?_
      refine go_getf dRef_isOutOfOrder_50 qf_Ref_55 hR.1 rfl ?_
      refine go_iload_n dRef_isOutOfOrder_53 rfl ?_
      refine go_zald dRef_isOutOfOrder_54 hR.2.2.2.2.2.2.2.2.2.2.2.2.2.2.2.2 (by exact vp_in_nI (by omega) (by omega)) (congrArg _ (nI_clamp (by omega))) ?_
      refine go_if_ne (tgt := 70) dRef_isOutOfOrder_55 (fun c3 => ?_) (fun c3 => ?_)
      · refine go_iconst (v := 1) dRef_isOutOfOrder_70 (by decide) ?_
        refine go_goto (tgt := 75) dRef_isOutOfOrder_71 ?_
        refine go_iret dRef_isOutOfOrder_75 rfl rfl ?_ (Nat.le_of_ble_eq_true rfl) (Nat.le_of_ble_eq_true rfl)
        exact ret_e (congrArg (fun v => some (Value.int v)) (bI_t (hq.mpr (Or.inr (Or.inl (Decidable.not_not.mp fun q => c3 ((e15 t ht).trans (bI_0.mpr q))))))).symm)
      · refine go_iload_n dRef_isOutOfOrder_58 rfl ?_
        refine go_iconst (v := 2) dRef_isOutOfOrder_59 (by decide) ?_
        refine go_icmp_ge (tgt := 74) dRef_isOutOfOrder_60 (fun c4 => ?_) (fun c4 => ?_)
        · refine go_iconst (v := 0) dRef_isOutOfOrder_74 (by decide) ?_
          refine go_iret dRef_isOutOfOrder_75 rfl rfl ?_ (Nat.le_of_ble_eq_true rfl) (Nat.le_of_ble_eq_true rfl)
          exact ret_e (congrArg (fun v => some (Value.int v)) (bI_f (fun q => (hq.mp q).elim (fun q => q c2) (fun q => q.elim (bI_0.mp ((e15 t ht).symm.trans c3)) (fun q => absurd ((nI_leI (a := 2) (by omega) (by omega)).mp c4) (by omega))))).symm)
        · refine go_aload_n dRef_isOutOfOrder_63 rfl ?_
          refine go_getf dRef_isOutOfOrder_64 qf_Ref_221 hR.1 rfl ?_
          refine go_top (y := S.2.2 9) (by exact hG.2.1.2.1) ?_
          refine go_if_eq (tgt := 74) dRef_isOutOfOrder_67 (fun c5 => ?_) (fun c5 => ?_)
          · refine go_iconst (v := 0) dRef_isOutOfOrder_74 (by decide) ?_
            refine go_iret dRef_isOutOfOrder_75 rfl rfl ?_ (Nat.le_of_ble_eq_true rfl) (Nat.le_of_ble_eq_true rfl)
            exact ret_e (congrArg (fun v => some (Value.int v)) (bI_f (fun q => (hq.mp q).elim (fun q => q c2) (fun q => q.elim (bI_0.mp ((e15 t ht).symm.trans c3)) (fun q => q.2 c5)))).symm)
          · refine go_iconst (v := 1) dRef_isOutOfOrder_70 (by decide) ?_
            refine go_goto (tgt := 75) dRef_isOutOfOrder_71 ?_
            refine go_iret dRef_isOutOfOrder_75 rfl rfl ?_ (Nat.le_of_ble_eq_true rfl) (Nat.le_of_ble_eq_true rfl)
            exact ret_e (congrArg (fun v => some (Value.int v)) (bI_t (hq.mpr (Or.inr (Or.inr ⟨Nat.not_le.mp fun q => c4 (nI_le (a := 2) q (by omega)), c5⟩)))).symm)
set_option maxHeartbeats 4000000 in
theorem l_Ref_isOut4 {E : pmEv} {h0 h : pmH} {z : Option Nat} {m : Nat} {g : Nat → Int32} {A : Nat → Nat → Int32} {S : aRs} {a : Nat} {x : Int32} (h6 : S.2.2 6 = x) (h8 : ¬ S.2.2 8 = 0) (hx1 : ¬ x = 1229472850) (t0 : ¬ x = 1732332865) (t1 : ¬ x = 1934772034) (t2 : ¬ x = 1883789683) (hR : RfA h m g A) (hG : RG g A S a) : Go E (mRef_isOutOfOrder, h0, 0, 0) 32 [some (.ref m), some (.int x), none] [] (h, z, false) 0 0 (Ret (some (.int (bI (ordW S.2.2 S.1.2)))) (h, z, false)) := by
  have hH := hG.hd h8
  refine go_iload_n dRef_isOutOfOrder_32 rfl ?_
  refine go_statP dRef_isOutOfOrder_33 ok_mRef_tagOf st_mRef_tagOf qm_Ref_215 r_tagOf ?_ (hnp := np_mRef_tagOf)
  refine go_top (y := -1) (by rw [tgN, if_neg t0, if_neg t1, if_neg t2]) ?_
  refine go_istore_n dRef_isOutOfOrder_36 ?_
  refine go_iload_n dRef_isOutOfOrder_37 rfl ?_
  refine go_iconst (v := -1) dRef_isOutOfOrder_38 (by decide) ?_
  refine go_icmp_eq (tgt := 76) dRef_isOutOfOrder_39 (fun c1 => ?_) (fun c1 => ?_)
  · refine go_iload_n dRef_isOutOfOrder_76 rfl ?_
    refine go_ldc dRef_isOutOfOrder_77 qc_Ref_173 ?_
    refine go_icmp_ne (tgt := 117) dRef_isOutOfOrder_79 (fun c2 => ?_) (fun c2 => ?_)
    · refine go_iload_n dRef_isOutOfOrder_117 rfl ?_
      refine go_ldc dRef_isOutOfOrder_118 qc_Ref_127 ?_
      refine go_icmp_ne (tgt := 150) dRef_isOutOfOrder_120 (fun c3 => ?_) (fun c3 => ?_)
      · refine go_iload_n dRef_isOutOfOrder_150 rfl ?_
        refine go_ldc dRef_isOutOfOrder_151 qc_Ref_178 ?_
        refine go_icmp_ne (tgt := 184) dRef_isOutOfOrder_153 (fun c4 => ?_) (fun c4 => ?_)
        · refine go_iload_n dRef_isOutOfOrder_184 rfl ?_
          refine go_ldc dRef_isOutOfOrder_185 qc_Ref_195 ?_
          refine go_icmp_ne (tgt := 201) dRef_isOutOfOrder_187 (fun c5 => ?_) (fun c5 => ?_)
          · refine go_iconst (v := 0) dRef_isOutOfOrder_201 (by decide) ?_
            refine go_iret dRef_isOutOfOrder_202 rfl rfl ?_ (Nat.le_of_ble_eq_true rfl) (Nat.le_of_ble_eq_true rfl)
            exact ret_e (congrArg (fun v => some (Value.int v)) (bI_f (by rw [ordW, if_neg h8, h6, if_neg c4, if_neg c5, if_neg hx1, if_neg c2, if_neg t0, if_neg t2, if_neg t1, if_neg c3]; exact id)).symm)
          · refine go_aload_n dRef_isOutOfOrder_190 rfl ?_
            refine go_getf dRef_isOutOfOrder_191 qf_Ref_218 hR.1 rfl ?_
            refine go_top (y := S.2.2 11) (by exact hG.2.1.2.2.2.1) ?_
            refine go_if_ne (tgt := 201) dRef_isOutOfOrder_194 (fun c6 => ?_) (fun c6 => ?_)
            · refine go_iconst (v := 0) dRef_isOutOfOrder_201 (by decide) ?_
              refine go_iret dRef_isOutOfOrder_202 rfl rfl ?_ (Nat.le_of_ble_eq_true rfl) (Nat.le_of_ble_eq_true rfl)
              exact ret_e (congrArg (fun v => some (Value.int v)) (bI_f (by subst c5; rw [ordW, if_neg h8, h6, if_neg (by decide), if_pos rfl]; exact c6)).symm)
            · refine go_iconst (v := 1) dRef_isOutOfOrder_197 (by decide) ?_
              refine go_goto (tgt := 202) dRef_isOutOfOrder_198 ?_
              refine go_iret dRef_isOutOfOrder_202 rfl rfl ?_ (Nat.le_of_ble_eq_true rfl) (Nat.le_of_ble_eq_true rfl)
              exact ret_e (congrArg (fun v => some (Value.int v)) (bI_t (by subst c5; rw [ordW, if_neg h8, h6, if_neg (by decide), if_pos rfl]; exact c6)).symm)
        · refine go_aload_n dRef_isOutOfOrder_156 rfl ?_
          refine go_getf dRef_isOutOfOrder_157 qf_Ref_230 hR.1 rfl ?_
          refine go_top (y := S.2.2 12) (by exact hG.2.1.2.2.2.2) ?_
          refine go_if_ne (tgt := 178) dRef_isOutOfOrder_160 (fun c5 => ?_) (fun c5 => ?_)
          · refine go_iconst (v := 1) dRef_isOutOfOrder_178 (by decide) ?_
            refine go_goto (tgt := 183) dRef_isOutOfOrder_179 ?_
            refine go_iret dRef_isOutOfOrder_183 rfl rfl ?_ (Nat.le_of_ble_eq_true rfl) (Nat.le_of_ble_eq_true rfl)
            exact ret_e (congrArg (fun v => some (Value.int v)) (bI_t (by subst c4; rw [ordW, if_neg h8, h6, if_pos rfl]; exact Or.inl c5)).symm)
          · refine go_aload_n dRef_isOutOfOrder_163 rfl ?_
            refine go_getf dRef_isOutOfOrder_164 qf_Ref_224 hR.1 rfl ?_
            refine go_top (y := nI S.1.2.1.2.2.2) (by exact hH.2.1.1.2.2.2) ?_
            refine go_iconst (v := 3) dRef_isOutOfOrder_167 (by decide) ?_
            refine go_icmp_ne (tgt := 182) dRef_isOutOfOrder_168 (fun c6 => ?_) (fun c6 => ?_)
            · refine go_iconst (v := 0) dRef_isOutOfOrder_182 (by decide) ?_
              refine go_iret dRef_isOutOfOrder_183 rfl rfl ?_ (Nat.le_of_ble_eq_true rfl) (Nat.le_of_ble_eq_true rfl)
              exact ret_e (congrArg (fun v => some (Value.int v)) (bI_f (by subst c4; rw [ordW, if_neg h8, h6, if_pos rfl]; exact fun q => q.elim (fun q => q c5) (fun q => c6 q.1))).symm)
            · refine go_aload_n dRef_isOutOfOrder_171 rfl ?_
              refine go_getf dRef_isOutOfOrder_172 qf_Ref_221 hR.1 rfl ?_
              refine go_top (y := S.2.2 9) (by exact hG.2.1.2.1) ?_
              refine go_if_ne (tgt := 182) dRef_isOutOfOrder_175 (fun c7 => ?_) (fun c7 => ?_)
              · refine go_iconst (v := 0) dRef_isOutOfOrder_182 (by decide) ?_
                refine go_iret dRef_isOutOfOrder_183 rfl rfl ?_ (Nat.le_of_ble_eq_true rfl) (Nat.le_of_ble_eq_true rfl)
                exact ret_e (congrArg (fun v => some (Value.int v)) (bI_f (by subst c4; rw [ordW, if_neg h8, h6, if_pos rfl]; exact fun q => q.elim (fun q => q c5) (fun q => c7 q.2))).symm)
              · refine go_iconst (v := 1) dRef_isOutOfOrder_178 (by decide) ?_
                refine go_goto (tgt := 183) dRef_isOutOfOrder_179 ?_
                refine go_iret dRef_isOutOfOrder_183 rfl rfl ?_ (Nat.le_of_ble_eq_true rfl) (Nat.le_of_ble_eq_true rfl)
                exact ret_e (congrArg (fun v => some (Value.int v)) (bI_t (by subst c4; rw [ordW, if_neg h8, h6, if_pos rfl]; exact Or.inr ⟨c6, c7⟩)).symm)
      · refine go_aload_n dRef_isOutOfOrder_123 rfl ?_
        refine go_getf dRef_isOutOfOrder_124 qf_Ref_218 hR.1 rfl ?_
        refine go_top (y := S.2.2 11) (by exact hG.2.1.2.2.2.1) ?_
        refine go_if_ne (tgt := 144) dRef_isOutOfOrder_127 (fun c4 => ?_) (fun c4 => ?_)
        · refine go_iconst (v := 1) dRef_isOutOfOrder_144 (by decide) ?_
          refine go_goto (tgt := 149) dRef_isOutOfOrder_145 ?_
          refine go_iret dRef_isOutOfOrder_149 rfl rfl ?_ (Nat.le_of_ble_eq_true rfl) (Nat.le_of_ble_eq_true rfl)
          exact ret_e (congrArg (fun v => some (Value.int v)) (bI_t (by subst c3; rw [ordW, if_neg h8, h6, if_neg (by decide), if_neg (by decide), if_neg (by decide), if_neg (by decide), if_neg (by decide), if_neg (by decide), if_neg (by decide), if_pos rfl]; exact Or.inl c4)).symm)
        · refine go_aload_n dRef_isOutOfOrder_130 rfl ?_
          refine go_getf dRef_isOutOfOrder_131 qf_Ref_227 hR.1 rfl ?_
          refine go_top (y := S.2.2 10) (by exact hG.2.1.2.2.1) ?_
          refine go_if_ne (tgt := 144) dRef_isOutOfOrder_134 (fun c5 => ?_) (fun c5 => ?_)
          · refine go_iconst (v := 1) dRef_isOutOfOrder_144 (by decide) ?_
            refine go_goto (tgt := 149) dRef_isOutOfOrder_145 ?_
            refine go_iret dRef_isOutOfOrder_149 rfl rfl ?_ (Nat.le_of_ble_eq_true rfl) (Nat.le_of_ble_eq_true rfl)
            exact ret_e (congrArg (fun v => some (Value.int v)) (bI_t (by subst c3; rw [ordW, if_neg h8, h6, if_neg (by decide), if_neg (by decide), if_neg (by decide), if_neg (by decide), if_neg (by decide), if_neg (by decide), if_neg (by decide), if_pos rfl]; exact Or.inr (Or.inl c5))).symm)
          · refine go_aload_n dRef_isOutOfOrder_137 rfl ?_
            refine go_getf dRef_isOutOfOrder_138 qf_Ref_221 hR.1 rfl ?_
            refine go_top (y := S.2.2 9) (by exact hG.2.1.2.1) ?_
            refine go_if_ne (tgt := 148) dRef_isOutOfOrder_141 (fun c6 => ?_) (fun c6 => ?_)
            · refine go_iconst (v := 0) dRef_isOutOfOrder_148 (by decide) ?_
              refine go_iret dRef_isOutOfOrder_149 rfl rfl ?_ (Nat.le_of_ble_eq_true rfl) (Nat.le_of_ble_eq_true rfl)
              exact ret_e (congrArg (fun v => some (Value.int v)) (bI_f (by subst c3; rw [ordW, if_neg h8, h6, if_neg (by decide), if_neg (by decide), if_neg (by decide), if_neg (by decide), if_neg (by decide), if_neg (by decide), if_neg (by decide), if_pos rfl]; exact fun q => q.elim (fun q => q c4) (fun q => q.elim (fun q => q c5) c6))).symm)
            · refine go_iconst (v := 1) dRef_isOutOfOrder_144 (by decide) ?_
              refine go_goto (tgt := 149) dRef_isOutOfOrder_145 ?_
              refine go_iret dRef_isOutOfOrder_149 rfl rfl ?_ (Nat.le_of_ble_eq_true rfl) (Nat.le_of_ble_eq_true rfl)
              exact ret_e (congrArg (fun v => some (Value.int v)) (bI_t (by subst c3; rw [ordW, if_neg h8, h6, if_neg (by decide), if_neg (by decide), if_neg (by decide), if_neg (by decide), if_neg (by decide), if_neg (by decide), if_neg (by decide), if_pos rfl]; exact Or.inr (Or.inr c6))).symm)
    · refine go_aload_n dRef_isOutOfOrder_82 rfl ?_
      refine go_getf dRef_isOutOfOrder_83 qf_Ref_218 hR.1 rfl ?_
      refine go_top (y := S.2.2 11) (by exact hG.2.1.2.2.2.1) ?_
      refine go_if_ne (tgt := 111) dRef_isOutOfOrder_86 (fun c3 => ?_) (fun c3 => ?_)
      · refine go_iconst (v := 1) dRef_isOutOfOrder_111 (by decide) ?_
        refine go_goto (tgt := 116) dRef_isOutOfOrder_112 ?_
        refine go_iret dRef_isOutOfOrder_116 rfl rfl ?_ (Nat.le_of_ble_eq_true rfl) (Nat.le_of_ble_eq_true rfl)
        exact ret_e (congrArg (fun v => some (Value.int v)) (bI_t (by subst c2; rw [ordW, if_neg h8, h6, if_neg (by decide), if_neg (by decide), if_neg (by decide), if_pos rfl]; exact Or.inl c3)).symm)
      · refine go_aload_n dRef_isOutOfOrder_89 rfl ?_
        refine go_getf dRef_isOutOfOrder_90 qf_Ref_221 hR.1 rfl ?_
        refine go_top (y := S.2.2 9) (by exact hG.2.1.2.1) ?_
        refine go_if_ne (tgt := 111) dRef_isOutOfOrder_93 (fun c4 => ?_) (fun c4 => ?_)
        · refine go_iconst (v := 1) dRef_isOutOfOrder_111 (by decide) ?_
          refine go_goto (tgt := 116) dRef_isOutOfOrder_112 ?_
          refine go_iret dRef_isOutOfOrder_116 rfl rfl ?_ (Nat.le_of_ble_eq_true rfl) (Nat.le_of_ble_eq_true rfl)
          exact ret_e (congrArg (fun v => some (Value.int v)) (bI_t (by subst c2; rw [ordW, if_neg h8, h6, if_neg (by decide), if_neg (by decide), if_neg (by decide), if_pos rfl]; exact Or.inr (Or.inl c4))).symm)
        · refine go_aload_n dRef_isOutOfOrder_96 rfl ?_
          refine go_getf dRef_isOutOfOrder_97 qf_Ref_224 hR.1 rfl ?_
          refine go_top (y := nI S.1.2.1.2.2.2) (by exact hH.2.1.1.2.2.2) ?_
          refine go_if_eq (tgt := 111) dRef_isOutOfOrder_100 (fun c5 => ?_) (fun c5 => ?_)
          · refine go_iconst (v := 1) dRef_isOutOfOrder_111 (by decide) ?_
            refine go_goto (tgt := 116) dRef_isOutOfOrder_112 ?_
            refine go_iret dRef_isOutOfOrder_116 rfl rfl ?_ (Nat.le_of_ble_eq_true rfl) (Nat.le_of_ble_eq_true rfl)
            exact ret_e (congrArg (fun v => some (Value.int v)) (bI_t (by subst c2; rw [ordW, if_neg h8, h6, if_neg (by decide), if_neg (by decide), if_neg (by decide), if_pos rfl]; exact Or.inr (Or.inr (Or.inl c5)))).symm)
          · refine go_aload_n dRef_isOutOfOrder_103 rfl ?_
            refine go_getf dRef_isOutOfOrder_104 qf_Ref_224 hR.1 rfl ?_
            refine go_top (y := nI S.1.2.1.2.2.2) (by exact hH.2.1.1.2.2.2) ?_
            refine go_iconst (v := 4) dRef_isOutOfOrder_107 (by decide) ?_
            refine go_icmp_ne (tgt := 115) dRef_isOutOfOrder_108 (fun c6 => ?_) (fun c6 => ?_)
            · refine go_iconst (v := 0) dRef_isOutOfOrder_115 (by decide) ?_
              refine go_iret dRef_isOutOfOrder_116 rfl rfl ?_ (Nat.le_of_ble_eq_true rfl) (Nat.le_of_ble_eq_true rfl)
              exact ret_e (congrArg (fun v => some (Value.int v)) (bI_f (by subst c2; rw [ordW, if_neg h8, h6, if_neg (by decide), if_neg (by decide), if_neg (by decide), if_pos rfl]; exact fun q => q.elim (fun q => q c3) (fun q => q.elim (fun q => q c4) (fun q => q.elim c5 c6)))).symm)
            · refine go_iconst (v := 1) dRef_isOutOfOrder_111 (by decide) ?_
              refine go_goto (tgt := 116) dRef_isOutOfOrder_112 ?_
              refine go_iret dRef_isOutOfOrder_116 rfl rfl ?_ (Nat.le_of_ble_eq_true rfl) (Nat.le_of_ble_eq_true rfl)
              exact ret_e (congrArg (fun v => some (Value.int v)) (bI_t (by subst c2; rw [ordW, if_neg h8, h6, if_neg (by decide), if_neg (by decide), if_neg (by decide), if_pos rfl]; exact Or.inr (Or.inr (Or.inr c6)))).symm)
  · exact absurd rfl c1
set_option maxHeartbeats 4000000 in
theorem r_isOutOfOrder {E : pmEv} {h : pmH} {z : Option Nat} {m : Nat} {g : Nat → Int32} {A : Nat → Nat → Int32} {S : aRs} {a : Nat} {x : Int32} (h6 : S.2.2 6 = x) (hR : RfA h m g A) (hG : RG g A S a) : Call E mRef_isOutOfOrder [.ref m, .int x] h z 0 0 (Ret (some (.int (bI (ordW S.2.2 S.1.2)))) (h, z, false)) := by
  refine call_of (L := [some (.ref m), some (.int x), none]) ok_mRef_isOutOfOrder (Nat.le_of_ble_eq_true rfl) ?_
  refine go_aload_n dRef_isOutOfOrder_0 rfl ?_
  refine go_getf dRef_isOutOfOrder_1 qf_Ref_212 hR.1 rfl ?_
  refine go_top (y := S.2.2 8) (by exact hG.2.1.1) ?_
  refine go_if_eq (tgt := 13) dRef_isOutOfOrder_4 (fun c1 => ?_) (fun c1 => ?_)
  · refine go_aload_n dRef_isOutOfOrder_13 rfl ?_
    refine go_getf dRef_isOutOfOrder_14 qf_Ref_212 hR.1 rfl ?_
    refine go_top (y := S.2.2 8) (by exact hG.2.1.1) ?_
    refine go_if_ne (tgt := 26) dRef_isOutOfOrder_17 (fun c2 => ?_) (fun c2 => ?_)
    · refine go_iconst (v := 1) dRef_isOutOfOrder_26 (by decide) ?_
      refine go_goto (tgt := 31) dRef_isOutOfOrder_27 ?_
      refine go_iret dRef_isOutOfOrder_31 rfl rfl ?_ (Nat.le_of_ble_eq_true rfl) (Nat.le_of_ble_eq_true rfl)
      exact absurd c1 c2
    · refine go_iload_n dRef_isOutOfOrder_20 rfl ?_
      refine go_ldc dRef_isOutOfOrder_21 qc_Ref_185 ?_
      refine go_icmp_eq (tgt := 30) dRef_isOutOfOrder_23 (fun c3 => ?_) (fun c3 => ?_)
      · refine go_iconst (v := 0) dRef_isOutOfOrder_30 (by decide) ?_
        refine go_iret dRef_isOutOfOrder_31 rfl rfl ?_ (Nat.le_of_ble_eq_true rfl) (Nat.le_of_ble_eq_true rfl)
        exact ret_e (congrArg (fun v => some (Value.int v)) (bI_f (by rw [ordW, if_pos c1, h6]; exact fun q => q c3)).symm)
      · refine go_iconst (v := 1) dRef_isOutOfOrder_26 (by decide) ?_
        refine go_goto (tgt := 31) dRef_isOutOfOrder_27 ?_
        refine go_iret dRef_isOutOfOrder_31 rfl rfl ?_ (Nat.le_of_ble_eq_true rfl) (Nat.le_of_ble_eq_true rfl)
        exact ret_e (congrArg (fun v => some (Value.int v)) (bI_t (by rw [ordW, if_pos c1, h6]; exact c3)).symm)
  · refine go_iload_n dRef_isOutOfOrder_7 rfl ?_
    refine go_ldc dRef_isOutOfOrder_8 qc_Ref_185 ?_
    refine go_icmp_ne (tgt := 32) dRef_isOutOfOrder_10 (fun c2 => ?_) (fun c2 => ?_)
    · by_cases t0 : x = 1732332865
      · exact l_Ref_isOut3 (x := x) (t := 0) (by omega) (by rw [t0]; rfl) c1 (by rw [ordW, if_neg c1, h6, t0, if_neg (by decide), if_neg (by decide), if_neg (by decide), if_neg (by decide), if_pos rfl]; exact ⟨fun q => q.elim Or.inl (fun q => q.elim (fun q => Or.inr (Or.inr ⟨by omega, q⟩)) (fun q => Or.inr (Or.inl q))), fun q => q.elim Or.inl (fun q => q.elim (fun q => Or.inr (Or.inr q)) (fun q => Or.inr (Or.inl q.2)))⟩) hR hG
      by_cases t1 : x = 1934772034
      · exact l_Ref_isOut3 (x := x) (t := 1) (by omega) (by rw [t1]; rfl) c1 (by rw [ordW, if_neg c1, h6, t1, if_neg (by decide), if_neg (by decide), if_neg (by decide), if_neg (by decide), if_neg (by decide), if_neg (by decide), if_pos rfl]; exact ⟨fun q => q.elim Or.inl (fun q => q.elim (fun q => Or.inr (Or.inr ⟨by omega, q⟩)) (fun q => Or.inr (Or.inl q))), fun q => q.elim Or.inl (fun q => q.elim (fun q => Or.inr (Or.inr q)) (fun q => Or.inr (Or.inl q.2)))⟩) hR hG
      by_cases t2 : x = 1883789683
      · exact l_Ref_isOut3 (x := x) (t := 2) (by omega) (by rw [t2]; rfl) c1 (by rw [ordW, if_neg c1, h6, t2, if_neg (by decide), if_neg (by decide), if_neg (by decide), if_neg (by decide), if_neg (by decide), if_pos rfl]; exact ⟨fun q => q.elim Or.inl (fun q => Or.inr (Or.inl q)), fun q => q.elim Or.inl (fun q => q.elim Or.inr (fun q => absurd q.1 (by omega)))⟩) hR hG
      exact l_Ref_isOut4 h6 c1 c2 t0 t1 t2 hR hG
    · refine go_aload_n dRef_isOutOfOrder_13 rfl ?_
      refine go_getf dRef_isOutOfOrder_14 qf_Ref_212 hR.1 rfl ?_
      refine go_top (y := S.2.2 8) (by exact hG.2.1.1) ?_
      refine go_if_ne (tgt := 26) dRef_isOutOfOrder_17 (fun c3 => ?_) (fun c3 => ?_)
      · refine go_iconst (v := 1) dRef_isOutOfOrder_26 (by decide) ?_
        refine go_goto (tgt := 31) dRef_isOutOfOrder_27 ?_
        refine go_iret dRef_isOutOfOrder_31 rfl rfl ?_ (Nat.le_of_ble_eq_true rfl) (Nat.le_of_ble_eq_true rfl)
        exact ret_e (congrArg (fun v => some (Value.int v)) (bI_t (by subst c2; rw [ordW, if_neg c1, h6, if_neg (by decide), if_neg (by decide), if_pos rfl]; trivial)).symm)
      · refine go_iload_n dRef_isOutOfOrder_20 rfl ?_
        refine go_ldc dRef_isOutOfOrder_21 qc_Ref_185 ?_
        refine go_icmp_eq (tgt := 30) dRef_isOutOfOrder_23 (fun c4 => ?_) (fun c4 => ?_)
        · refine go_iconst (v := 0) dRef_isOutOfOrder_30 (by decide) ?_
          refine go_iret dRef_isOutOfOrder_31 rfl rfl ?_ (Nat.le_of_ble_eq_true rfl) (Nat.le_of_ble_eq_true rfl)
          exact absurd c3 c1
        · refine go_iconst (v := 1) dRef_isOutOfOrder_26 (by decide) ?_
          refine go_goto (tgt := 31) dRef_isOutOfOrder_27 ?_
          refine go_iret dRef_isOutOfOrder_31 rfl rfl ?_ (Nat.le_of_ble_eq_true rfl) (Nat.le_of_ble_eq_true rfl)
          exact absurd c3 c1
set_option maxHeartbeats 4000000 in
theorem r_takeHead {E : pmEv} {h : pmH} {z : Option Nat} {m : Nat} {g : Nat → Int32} {A : Nat → Nat → Int32} {o : Bool × aPic} {w p : aRow} {S : aRs} {a l : Nat} (h8 : S.2.2 8 = 0) (hR : RfA h m g A) (hb : RB g A o w p) (hG : RG g A S a) (hp : p.2 ≤ 2000) (hB : AllB p) (hl : l ≤ 255) (hf : a + 12 + l ≤ p.2) : Call E mRef_takeHead [.ref m, .int (nI (a + 8)), .int (nI l)] h z 0 0 (RetX (some (.int (bI (hdOk p a l)))) (TkP m h o w p (hdOk p a l) (hdS p a S) (a + 12 + l)) z) := by
  have hs : Sm h h m 17 := Sm.refl _ _ _
  have h13 := hb.2.2.1.2
  refine call_of (L := [some (.ref m), some (.int (nI (a + 8))), some (.int (nI l))]) ok_mRef_takeHead (Nat.le_of_ble_eq_true rfl) ?_
  refine go_iload_n dRef_takeHead_0 rfl ?_
  refine go_bipush (v := 13) dRef_takeHead_1 (by decide) ?_
  refine go_icmp_ne (tgt := 104) dRef_takeHead_3 (fun c1 => ?_) (fun c1 => ?_)
  · refine go_iconst (v := 0) dRef_takeHead_104 (by decide) ?_
    refine go_iret dRef_takeHead_105 rfl rfl ?_ (Nat.le_of_ble_eq_true rfl) (Nat.le_of_ble_eq_true rfl)
    exact tk_no (fun q => c1 (by rw [q.1]; rfl)) hR hs hb hG.1
  · have l13 : l = 13 := (nI_inj (b := 13) (by omega) (by omega)).mp c1
    refine go_aload_n dRef_takeHead_6 rfl ?_
    refine go_getf dRef_takeHead_7 qf_Ref_49 hR.1 rfl ?_
    refine go_iload_n dRef_takeHead_10 rfl ?_
    refine go_statP dRef_takeHead_11 ok_mRef_four st_mRef_four qm_Ref_199 (r_four (N := 2000) (f := A 13) (j := a + 8) (by omega) (by omega) hR.2.2.2.2.2.2.2.2.2.2.2.2.2.2.1) ?_ (hnp := np_mRef_four)
    refine go_top (y := fr p.1 (a + 8)) (by exact fr_ag h13 (by omega)) ?_
    refine go_if_lt (tgt := 104) dRef_takeHead_14 (fun c2 => ?_) (fun c2 => ?_)
    · refine go_iconst (v := 0) dRef_takeHead_104 (by decide) ?_
      refine go_iret dRef_takeHead_105 rfl rfl ?_ (Nat.le_of_ble_eq_true rfl) (Nat.le_of_ble_eq_true rfl)
      exact tk_no (fun q => absurd (Int32.lt_of_lt_of_le c2 (by decide : (0 : Int32) ≤ 1)) (Int32.not_lt.mpr q.2.1.1.1)) hR hs hb hG.1
    · refine go_aload_n dRef_takeHead_17 rfl ?_
      refine go_getf dRef_takeHead_18 qf_Ref_49 hR.1 rfl ?_
      refine go_iload_n dRef_takeHead_21 rfl ?_
      refine go_iconst (v := 4) dRef_takeHead_22 (by decide) ?_
      refine go_iadd dRef_takeHead_23 ?_
      refine go_top (y := nI (a + 8 + 4)) (by rw [show (4 : Int32) = nI 4 from rfl, nI_add]) ?_
      refine go_statP dRef_takeHead_24 ok_mRef_four st_mRef_four qm_Ref_199 (r_four (N := 2000) (f := A 13) (j := a + 8 + 4) (by omega) (by omega) hR.2.2.2.2.2.2.2.2.2.2.2.2.2.2.1) ?_ (hnp := np_mRef_four)
      refine go_top (y := fr p.1 (a + 8 + 4)) (by exact fr_ag h13 (by omega)) ?_
      refine go_if_lt (tgt := 104) dRef_takeHead_27 (fun c3 => ?_) (fun c3 => ?_)
      · refine go_iconst (v := 0) dRef_takeHead_104 (by decide) ?_
        refine go_iret dRef_takeHead_105 rfl rfl ?_ (Nat.le_of_ble_eq_true rfl) (Nat.le_of_ble_eq_true rfl)
        exact tk_no (fun q => absurd (Int32.lt_of_lt_of_le c3 (by decide : (0 : Int32) ≤ 1)) (Int32.not_lt.mpr q.2.1.2.1.1)) hR hs hb hG.1
      · refine go_aload_n dRef_takeHead_30 rfl ?_
        refine go_getf dRef_takeHead_31 qf_Ref_49 hR.1 rfl ?_
        refine go_iload_n dRef_takeHead_34 rfl ?_
        refine go_statP dRef_takeHead_35 ok_mRef_four st_mRef_four qm_Ref_199 (r_four (N := 2000) (f := A 13) (j := a + 8) (by omega) (by omega) hR.2.2.2.2.2.2.2.2.2.2.2.2.2.2.1) ?_ (hnp := np_mRef_four)
        refine go_top (y := fr p.1 (a + 8)) (by exact fr_ag h13 (by omega)) ?_
        refine go_aload_n dRef_takeHead_38 rfl ?_
        refine go_getf dRef_takeHead_39 qf_Ref_49 hR.1 rfl ?_
        refine go_iload_n dRef_takeHead_42 rfl ?_
        refine go_iconst (v := 4) dRef_takeHead_43 (by decide) ?_
        refine go_iadd dRef_takeHead_44 ?_
        refine go_top (y := nI (a + 8 + 4)) (by rw [show (4 : Int32) = nI 4 from rfl, nI_add]) ?_
        refine go_statP dRef_takeHead_45 ok_mRef_four st_mRef_four qm_Ref_199 (r_four (N := 2000) (f := A 13) (j := a + 8 + 4) (by omega) (by omega) hR.2.2.2.2.2.2.2.2.2.2.2.2.2.2.1) ?_ (hnp := np_mRef_four)
        refine go_top (y := fr p.1 (a + 8 + 4)) (by exact fr_ag h13 (by omega)) ?_
        refine go_aload_n dRef_takeHead_48 rfl ?_
        refine go_getf dRef_takeHead_49 qf_Ref_49 hR.1 rfl ?_
        refine go_iload_n dRef_takeHead_52 rfl ?_
        refine go_bipush (v := 8) dRef_takeHead_53 (by decide) ?_
        refine go_iadd dRef_takeHead_55 ?_
        refine go_top (y := nI (a + 8 + 8)) (by rw [show (8 : Int32) = nI 8 from rfl, nI_add]) ?_
        refine go_iald dRef_takeHead_56 hR.2.2.2.2.2.2.2.2.2.2.2.2.2.2.1 (by exact vp_in_nI (by omega) (by omega)) (congrArg _ (nI_clamp (by omega))) ?_
        refine go_top (y := p.1 (a + 8 + 8)) (by exact h13 _ (by omega)) ?_
        refine go_aload_n dRef_takeHead_57 rfl ?_
        refine go_getf dRef_takeHead_58 qf_Ref_49 hR.1 rfl ?_
        refine go_iload_n dRef_takeHead_61 rfl ?_
        refine go_bipush (v := 9) dRef_takeHead_62 (by decide) ?_
        refine go_iadd dRef_takeHead_64 ?_
        refine go_top (y := nI (a + 8 + 9)) (by rw [show (9 : Int32) = nI 9 from rfl, nI_add]) ?_
        refine go_iald dRef_takeHead_65 hR.2.2.2.2.2.2.2.2.2.2.2.2.2.2.1 (by exact vp_in_nI (by omega) (by omega)) (congrArg _ (nI_clamp (by omega))) ?_
        refine go_top (y := p.1 (a + 8 + 9)) (by exact h13 _ (by omega)) ?_
        refine go_statP dRef_takeHead_66 ok_mRef_isGood st_mRef_isGood qm_Ref_63 r_isGood ?_ (hnp := np_mRef_isGood)
        refine go_ifeq_b (tgt := 104) dRef_takeHead_69 (fun c4 => ?_) (fun c4 => ?_)
        · refine go_iconst (v := 0) dRef_takeHead_104 (by decide) ?_
          refine go_iret dRef_takeHead_105 rfl rfl ?_ (Nat.le_of_ble_eq_true rfl) (Nat.le_of_ble_eq_true rfl)
          exact tk_no (fun q => c4 q.2.1) hR hs hb hG.1
        · refine go_aload_n dRef_takeHead_72 rfl ?_
          refine go_getf dRef_takeHead_73 qf_Ref_49 hR.1 rfl ?_
          refine go_iload_n dRef_takeHead_76 rfl ?_
          refine go_bipush (v := 10) dRef_takeHead_77 (by decide) ?_
          refine go_iadd dRef_takeHead_79 ?_
          refine go_top (y := nI (a + 8 + 10)) (by rw [show (10 : Int32) = nI 10 from rfl, nI_add]) ?_
          refine go_iald dRef_takeHead_80 hR.2.2.2.2.2.2.2.2.2.2.2.2.2.2.1 (by exact vp_in_nI (by omega) (by omega)) (congrArg _ (nI_clamp (by omega))) ?_
          refine go_top (y := p.1 (a + 8 + 10)) (by exact h13 _ (by omega)) ?_
          refine go_aload_n dRef_takeHead_81 rfl ?_
          refine go_getf dRef_takeHead_82 qf_Ref_49 hR.1 rfl ?_
          refine go_iload_n dRef_takeHead_85 rfl ?_
          refine go_bipush (v := 11) dRef_takeHead_86 (by decide) ?_
          refine go_iadd dRef_takeHead_88 ?_
          refine go_top (y := nI (a + 8 + 11)) (by rw [show (11 : Int32) = nI 11 from rfl, nI_add]) ?_
          refine go_iald dRef_takeHead_89 hR.2.2.2.2.2.2.2.2.2.2.2.2.2.2.1 (by exact vp_in_nI (by omega) (by omega)) (congrArg _ (nI_clamp (by omega))) ?_
          refine go_top (y := p.1 (a + 8 + 11)) (by exact h13 _ (by omega)) ?_
          refine go_iadd dRef_takeHead_90 ?_
          refine go_aload_n dRef_takeHead_91 rfl ?_
          refine go_getf dRef_takeHead_92 qf_Ref_49 hR.1 rfl ?_
          refine go_iload_n dRef_takeHead_95 rfl ?_
          refine go_bipush (v := 12) dRef_takeHead_96 (by decide) ?_
          refine go_iadd dRef_takeHead_98 ?_
          refine go_top (y := nI (a + 8 + 12)) (by rw [show (12 : Int32) = nI 12 from rfl, nI_add]) ?_
          refine go_iald dRef_takeHead_99 hR.2.2.2.2.2.2.2.2.2.2.2.2.2.2.1 (by exact vp_in_nI (by omega) (by omega)) (congrArg _ (nI_clamp (by omega))) ?_
          refine go_top (y := p.1 (a + 8 + 12)) (by exact h13 _ (by omega)) ?_
          refine go_iadd dRef_takeHead_100 ?_
          refine go_if_le (tgt := 106) dRef_takeHead_101 (fun c5 => ?_) (fun c5 => ?_)
          · refine go_aload_n dRef_takeHead_106 rfl ?_
            refine go_iconst (v := 1) dRef_takeHead_107 (by decide) ?_
            refine go_putf dRef_takeHead_108 qf_Ref_212 pw_8_36 hR.1 rfl rfl ?_
            refine go_aload_n dRef_takeHead_111 rfl ?_
            refine go_aload_n dRef_takeHead_112 rfl ?_
            refine go_getf dRef_takeHead_113 qf_Ref_49 (pmU_s _ _ _) rfl ?_
            refine go_iload_n dRef_takeHead_116 rfl ?_
            refine go_statP dRef_takeHead_117 ok_mRef_four st_mRef_four qm_Ref_199 (r_four (N := 2000) (f := A 13) (j := a + 8) (by omega) (by omega) ((pmU_n _ _ (by omega)).trans hR.2.2.2.2.2.2.2.2.2.2.2.2.2.2.1)) ?_ (hnp := np_mRef_four)
            refine go_top (y := fr p.1 (a + 8)) (by exact fr_ag h13 (by omega)) ?_
            refine go_putf dRef_takeHead_120 qf_Ref_233 pw_8_15 (pmU_s _ _ _) rfl rfl ?_
            refine go_aload_n dRef_takeHead_123 rfl ?_
            refine go_aload_n dRef_takeHead_124 rfl ?_
            refine go_getf dRef_takeHead_125 qf_Ref_49 (pmU_s _ _ _) rfl ?_
            refine go_iload_n dRef_takeHead_128 rfl ?_
            refine go_iconst (v := 4) dRef_takeHead_129 (by decide) ?_
            refine go_iadd dRef_takeHead_130 ?_
            refine go_top (y := nI (a + 8 + 4)) (by rw [show (4 : Int32) = nI 4 from rfl, nI_add]) ?_
            refine go_statP dRef_takeHead_131 ok_mRef_four st_mRef_four qm_Ref_199 (r_four (N := 2000) (f := A 13) (j := a + 8 + 4) (by omega) (by omega) ((pmU_n _ _ (by omega)).trans ((pmU_n _ _ (by omega)).trans hR.2.2.2.2.2.2.2.2.2.2.2.2.2.2.1))) ?_ (hnp := np_mRef_four)
            refine go_top (y := fr p.1 (a + 8 + 4)) (by exact fr_ag h13 (by omega)) ?_
            refine go_putf dRef_takeHead_134 qf_Ref_236 pw_8_16 (pmU_s _ _ _) rfl rfl ?_
            refine go_aload_n dRef_takeHead_137 rfl ?_
            refine go_aload_n dRef_takeHead_138 rfl ?_
            refine go_getf dRef_takeHead_139 qf_Ref_49 (pmU_s _ _ _) rfl ?_
            refine go_iload_n dRef_takeHead_142 rfl ?_
            refine go_bipush (v := 8) dRef_takeHead_143 (by decide) ?_
            refine go_iadd dRef_takeHead_145 ?_
            refine go_top (y := nI (a + 8 + 8)) (by rw [show (8 : Int32) = nI 8 from rfl, nI_add]) ?_
            refine go_iald dRef_takeHead_146 ((pmU_n _ _ (by omega)).trans ((pmU_n _ _ (by omega)).trans ((pmU_n _ _ (by omega)).trans hR.2.2.2.2.2.2.2.2.2.2.2.2.2.2.1))) (by exact vp_in_nI (by omega) (by omega)) (congrArg _ (nI_clamp (by omega))) ?_
            refine go_top (y := p.1 (a + 8 + 8)) (by exact h13 _ (by omega)) ?_
            refine go_putf dRef_takeHead_147 qf_Ref_239 pw_8_17 (pmU_s _ _ _) rfl rfl ?_
            refine go_aload_n dRef_takeHead_150 rfl ?_
            refine go_aload_n dRef_takeHead_151 rfl ?_
            refine go_getf dRef_takeHead_152 qf_Ref_49 (pmU_s _ _ _) rfl ?_
            refine go_iload_n dRef_takeHead_155 rfl ?_
            refine go_bipush (v := 9) dRef_takeHead_156 (by decide) ?_
            refine go_iadd dRef_takeHead_158 ?_
            refine go_top (y := nI (a + 8 + 9)) (by rw [show (9 : Int32) = nI 9 from rfl, nI_add]) ?_
            refine go_iald dRef_takeHead_159 ((pmU_n _ _ (by omega)).trans ((pmU_n _ _ (by omega)).trans ((pmU_n _ _ (by omega)).trans ((pmU_n _ _ (by omega)).trans hR.2.2.2.2.2.2.2.2.2.2.2.2.2.2.1)))) (by exact vp_in_nI (by omega) (by omega)) (congrArg _ (nI_clamp (by omega))) ?_
            refine go_top (y := p.1 (a + 8 + 9)) (by exact h13 _ (by omega)) ?_
            refine go_putf dRef_takeHead_160 qf_Ref_224 pw_8_18 (pmU_s _ _ _) rfl rfl ?_
            refine go_nm (fun hnk1 enk1 => ?_)
            have gsk1 : Sm h hnk1 m 17 := by rw [enk1]; exact (Sm.put' (Sm.put' (Sm.put' (Sm.put' (Sm.put' (Sm.refl _ _ _) _ (by omega) (by omega)) _ (by omega) (by omega)) _ (by omega) (by omega)) _ (by omega) (by omega)) _ (by omega) (by omega))
            have hRk1 : RfA hnk1 m (upd (upd (upd (upd (upd g 36 1) 15 (fr p.1 (a + 8))) 16 (fr p.1 (a + 8 + 4))) 17 (p.1 (a + 8 + 8))) 18 (p.1 (a + 8 + 9))) (A) := ⟨(congrFun enk1 m).trans (pmU_s _ _ _), (congrFun enk1 (m + 1)).trans ((pmU_n _ _ (by omega)).trans ((pmU_n _ _ (by omega)).trans ((pmU_n _ _ (by omega)).trans ((pmU_n _ _ (by omega)).trans ((pmU_n _ _ (by omega)).trans hR.2.1))))), (congrFun enk1 (m + 2)).trans ((pmU_n _ _ (by omega)).trans ((pmU_n _ _ (by omega)).trans ((pmU_n _ _ (by omega)).trans ((pmU_n _ _ (by omega)).trans ((pmU_n _ _ (by omega)).trans hR.2.2.1))))), (congrFun enk1 (m + 3)).trans ((pmU_n _ _ (by omega)).trans ((pmU_n _ _ (by omega)).trans ((pmU_n _ _ (by omega)).trans ((pmU_n _ _ (by omega)).trans ((pmU_n _ _ (by omega)).trans hR.2.2.2.1))))), (congrFun enk1 (m + 4)).trans ((pmU_n _ _ (by omega)).trans ((pmU_n _ _ (by omega)).trans ((pmU_n _ _ (by omega)).trans ((pmU_n _ _ (by omega)).trans ((pmU_n _ _ (by omega)).trans hR.2.2.2.2.1))))), (congrFun enk1 (m + 5)).trans ((pmU_n _ _ (by omega)).trans ((pmU_n _ _ (by omega)).trans ((pmU_n _ _ (by omega)).trans ((pmU_n _ _ (by omega)).trans ((pmU_n _ _ (by omega)).trans hR.2.2.2.2.2.1))))), (congrFun enk1 (m + 6)).trans ((pmU_n _ _ (by omega)).trans ((pmU_n _ _ (by omega)).trans ((pmU_n _ _ (by omega)).trans ((pmU_n _ _ (by omega)).trans ((pmU_n _ _ (by omega)).trans hR.2.2.2.2.2.2.1))))), (congrFun enk1 (m + 7)).trans ((pmU_n _ _ (by omega)).trans ((pmU_n _ _ (by omega)).trans ((pmU_n _ _ (by omega)).trans ((pmU_n _ _ (by omega)).trans ((pmU_n _ _ (by omega)).trans hR.2.2.2.2.2.2.2.1))))), (congrFun enk1 (m + 8)).trans ((pmU_n _ _ (by omega)).trans ((pmU_n _ _ (by omega)).trans ((pmU_n _ _ (by omega)).trans ((pmU_n _ _ (by omega)).trans ((pmU_n _ _ (by omega)).trans hR.2.2.2.2.2.2.2.2.1))))), (congrFun enk1 (m + 9)).trans ((pmU_n _ _ (by omega)).trans ((pmU_n _ _ (by omega)).trans ((pmU_n _ _ (by omega)).trans ((pmU_n _ _ (by omega)).trans ((pmU_n _ _ (by omega)).trans hR.2.2.2.2.2.2.2.2.2.1))))), (congrFun enk1 (m + 10)).trans ((pmU_n _ _ (by omega)).trans ((pmU_n _ _ (by omega)).trans ((pmU_n _ _ (by omega)).trans ((pmU_n _ _ (by omega)).trans ((pmU_n _ _ (by omega)).trans hR.2.2.2.2.2.2.2.2.2.2.1))))), (congrFun enk1 (m + 11)).trans ((pmU_n _ _ (by omega)).trans ((pmU_n _ _ (by omega)).trans ((pmU_n _ _ (by omega)).trans ((pmU_n _ _ (by omega)).trans ((pmU_n _ _ (by omega)).trans hR.2.2.2.2.2.2.2.2.2.2.2.1))))), (congrFun enk1 (m + 12)).trans ((pmU_n _ _ (by omega)).trans ((pmU_n _ _ (by omega)).trans ((pmU_n _ _ (by omega)).trans ((pmU_n _ _ (by omega)).trans ((pmU_n _ _ (by omega)).trans hR.2.2.2.2.2.2.2.2.2.2.2.2.1))))), (congrFun enk1 (m + 13)).trans ((pmU_n _ _ (by omega)).trans ((pmU_n _ _ (by omega)).trans ((pmU_n _ _ (by omega)).trans ((pmU_n _ _ (by omega)).trans ((pmU_n _ _ (by omega)).trans hR.2.2.2.2.2.2.2.2.2.2.2.2.2.1))))), (congrFun enk1 (m + 14)).trans ((pmU_n _ _ (by omega)).trans ((pmU_n _ _ (by omega)).trans ((pmU_n _ _ (by omega)).trans ((pmU_n _ _ (by omega)).trans ((pmU_n _ _ (by omega)).trans hR.2.2.2.2.2.2.2.2.2.2.2.2.2.2.1))))), (congrFun enk1 (m + 15)).trans ((pmU_n _ _ (by omega)).trans ((pmU_n _ _ (by omega)).trans ((pmU_n _ _ (by omega)).trans ((pmU_n _ _ (by omega)).trans ((pmU_n _ _ (by omega)).trans hR.2.2.2.2.2.2.2.2.2.2.2.2.2.2.2.1))))), (congrFun enk1 (m + 16)).trans ((pmU_n _ _ (by omega)).trans ((pmU_n _ _ (by omega)).trans ((pmU_n _ _ (by omega)).trans ((pmU_n _ _ (by omega)).trans ((pmU_n _ _ (by omega)).trans hR.2.2.2.2.2.2.2.2.2.2.2.2.2.2.2.2)))))⟩
            have sk1 := hs.trans gsk1
            refine go_iconst (v := 1) dRef_takeHead_163 (by decide) ?_
            refine go_iret dRef_takeHead_164 rfl rfl ?_ (Nat.le_of_ble_eq_true rfl) (Nat.le_of_ble_eq_true rfl)
            exact tk_yes ⟨l13, c4, sum3 (hB _ (by omega)) (hB _ (by omega)) (hB _ (by omega)) c5⟩ hRk1 sk1 hb (hG.head h8 c4 (by omega))
          · refine go_iconst (v := 0) dRef_takeHead_104 (by decide) ?_
            refine go_iret dRef_takeHead_105 rfl rfl ?_ (Nat.le_of_ble_eq_true rfl) (Nat.le_of_ble_eq_true rfl)
            exact tk_no (fun q => c5 (by rw [q.2.2.1, q.2.2.2.1, q.2.2.2.2]; decide)) hR hs hb hG.1
set_option maxHeartbeats 4000000 in
theorem r_takeTag {E : pmEv} {h : pmH} {z : Option Nat} {m : Nat} {g : Nat → Int32} {A : Nat → Nat → Int32} {o : Bool × aPic} {w p : aRow} {S : aRs} {a l : Nat} {t : Nat} (ht : t < 3) (h8 : ¬ S.2.2 8 = 0) (hR : RfA h m g A) (hb : RB g A o w p) (hG : RG g A S a) (hp : p.2 ≤ 2000) (hB : AllB p) (hl : l ≤ 255) (hf : a + 12 + l ≤ p.2) : Call E mRef_takeTag [.ref m, .int (nI t), .int (nI (a + 8)), .int (nI l)] h z 0 0 (RetX (some (.int (bI (tgK p a l t)))) (TkP m h o w p (tgK p a l t) (((S.1.1, tgS S.1.2 t (tgV p a t)), S.2)) (a + 12 + l)) z) := by
  have hs : Sm h h m 17 := Sm.refl _ _ _
  have h13 := hb.2.2.1.2
  refine call_of (L := [some (.ref m), some (.int (nI t)), some (.int (nI (a + 8))), some (.int (nI l)), none]) ok_mRef_takeTag (Nat.le_of_ble_eq_true rfl) ?_
  refine go_iload_n dRef_takeTag_0 rfl ?_
  refine go_iload_n dRef_takeTag_1 rfl ?_
  refine go_if_ne (tgt := 9) dRef_takeTag_2 (fun c1 => ?_) (fun c1 => ?_)
  · refine go_iload_n dRef_takeTag_9 rfl ?_
    refine go_iconst (v := 1) dRef_takeTag_10 (by decide) ?_
    refine go_icmp_ne (tgt := 18) dRef_takeTag_11 (fun c2 => ?_) (fun c2 => ?_)
    · obtain rfl : t = 2 := by
        have n0 : t ≠ 0 := fun e => c1 (by rw [e]; rfl)
        have n1 : t ≠ 1 := fun e => c2 (by rw [e]; rfl)
        omega
      refine go_bipush (v := 9) dRef_takeTag_18 (by decide) ?_
      refine go_icmp_eq (tgt := 25) dRef_takeTag_20 (fun c3 => ?_) (fun c3 => ?_)
      · have ll : l = 9 := (nI_inj (b := 9) (by omega) (by omega)).mp c3
        refine go_iload_n dRef_takeTag_25 rfl ?_
        refine go_iconst (v := 1) dRef_takeTag_26 (by decide) ?_
        refine go_icmp_ne (tgt := 39) dRef_takeTag_27 (fun c4 => ?_) (fun c4 => ?_)
        · refine go_aload_n dRef_takeTag_39 rfl ?_
          refine go_getf dRef_takeTag_40 qf_Ref_49 hR.1 rfl ?_
          refine go_iload_n dRef_takeTag_43 rfl ?_
          refine go_statP dRef_takeTag_44 ok_mRef_four st_mRef_four qm_Ref_199 (r_four (N := 2000) (f := A 13) (j := a + 8) (by omega) (by omega) hR.2.2.2.2.2.2.2.2.2.2.2.2.2.2.1) ?_ (hnp := np_mRef_four)
          refine go_top (y := tgV p a 2) (by exact fr_ag h13 (by omega)) ?_
          refine go_istore dRef_takeTag_47 ?_
          refine go_aload_n dRef_takeTag_49 rfl ?_
          refine go_getf dRef_takeTag_50 qf_Ref_55 hR.1 rfl ?_
          refine go_iload_n dRef_takeTag_53 rfl ?_
          refine go_iconst (v := 1) dRef_takeTag_54 (by decide) ?_
          refine go_zast dRef_takeTag_55 hR.2.2.2.2.2.2.2.2.2.2.2.2.2.2.2.2 (by exact vp_in_nI (by omega) (by omega)) (nI_clamp (by omega)) (by simp) ?_
          refine go_aload_n dRef_takeTag_56 rfl ?_
          refine go_getf dRef_takeTag_57 qf_Ref_34 ((pmU_n _ _ (by omega)).trans hR.1) rfl ?_
          refine go_iload_n dRef_takeTag_60 rfl ?_
          refine go_iload dRef_takeTag_61 rfl ?_
          refine go_iast dRef_takeTag_63 ((pmU_n _ _ (by omega)).trans hR.2.2.2.2.2.2.2.2.2.1) (by exact vp_in_nI (by omega) (by omega)) (nI_clamp (by omega)) ?_
          refine go_nm (fun hnk1 enk1 => ?_)
          have gsk1 : Sm h hnk1 m 17 := by rw [enk1]; exact (Sm.put' (Sm.put' (Sm.refl _ _ _) _ (by omega) (by omega)) _ (by omega) (by omega))
          have hRk1 : RfA hnk1 m (g) (uA (uA A 15 (upd (A 15) 2 1)) 8 (upd (A 8) 2 (tgV p a 2))) := ⟨(congrFun enk1 m).trans ((pmU_n _ _ (by omega)).trans ((pmU_n _ _ (by omega)).trans hR.1)), (congrFun enk1 (m + 1)).trans ((pmU_n _ _ (by omega)).trans ((pmU_n _ _ (by omega)).trans hR.2.1)), (congrFun enk1 (m + 2)).trans ((pmU_n _ _ (by omega)).trans ((pmU_n _ _ (by omega)).trans hR.2.2.1)), (congrFun enk1 (m + 3)).trans ((pmU_n _ _ (by omega)).trans ((pmU_n _ _ (by omega)).trans hR.2.2.2.1)), (congrFun enk1 (m + 4)).trans ((pmU_n _ _ (by omega)).trans ((pmU_n _ _ (by omega)).trans hR.2.2.2.2.1)), (congrFun enk1 (m + 5)).trans ((pmU_n _ _ (by omega)).trans ((pmU_n _ _ (by omega)).trans hR.2.2.2.2.2.1)), (congrFun enk1 (m + 6)).trans ((pmU_n _ _ (by omega)).trans ((pmU_n _ _ (by omega)).trans hR.2.2.2.2.2.2.1)), (congrFun enk1 (m + 7)).trans ((pmU_n _ _ (by omega)).trans ((pmU_n _ _ (by omega)).trans hR.2.2.2.2.2.2.2.1)), (congrFun enk1 (m + 8)).trans ((pmU_n _ _ (by omega)).trans ((pmU_n _ _ (by omega)).trans hR.2.2.2.2.2.2.2.2.1)), (congrFun enk1 (m + 9)).trans (pmU_s _ _ _), (congrFun enk1 (m + 10)).trans ((pmU_n _ _ (by omega)).trans ((pmU_n _ _ (by omega)).trans hR.2.2.2.2.2.2.2.2.2.2.1)), (congrFun enk1 (m + 11)).trans ((pmU_n _ _ (by omega)).trans ((pmU_n _ _ (by omega)).trans hR.2.2.2.2.2.2.2.2.2.2.2.1)), (congrFun enk1 (m + 12)).trans ((pmU_n _ _ (by omega)).trans ((pmU_n _ _ (by omega)).trans hR.2.2.2.2.2.2.2.2.2.2.2.2.1)), (congrFun enk1 (m + 13)).trans ((pmU_n _ _ (by omega)).trans ((pmU_n _ _ (by omega)).trans hR.2.2.2.2.2.2.2.2.2.2.2.2.2.1)), (congrFun enk1 (m + 14)).trans ((pmU_n _ _ (by omega)).trans ((pmU_n _ _ (by omega)).trans hR.2.2.2.2.2.2.2.2.2.2.2.2.2.2.1)), (congrFun enk1 (m + 15)).trans ((pmU_n _ _ (by omega)).trans ((pmU_n _ _ (by omega)).trans hR.2.2.2.2.2.2.2.2.2.2.2.2.2.2.2.1)), (congrFun enk1 (m + 16)).trans ((pmU_n _ _ (by omega)).trans (pmU_s _ _ _))⟩
          have sk1 := hs.trans gsk1
          refine go_iload_n dRef_takeTag_64 rfl ?_
          refine go_iload dRef_takeTag_65 rfl ?_
          refine go_i2l dRef_takeTag_67 ?_
          refine go_statP dRef_takeTag_68 ok_mRef_mayBe st_mRef_mayBe qm_Ref_107 r_mayBe ?_ (hnp := np_mRef_mayBe)
          refine go_ifeq_b (tgt := 111) dRef_takeTag_71 (fun c5 => ?_) (fun c5 => ?_)
          · refine go_iconst (v := 0) dRef_takeTag_111 (by decide) ?_
            refine go_iret dRef_takeTag_112 rfl rfl ?_ (Nat.le_of_ble_eq_true rfl) (Nat.le_of_ble_eq_true rfl)
            exact tk_no (fun q => c5 q.2.1) hRk1 sk1 hb hG.1
          · refine go_iload_n dRef_takeTag_74 rfl ?_
            refine go_iconst (v := 2) dRef_takeTag_75 (by decide) ?_
            refine go_icmp_lt (tgt := 107) dRef_takeTag_76 (fun c6 => ?_) (fun c6 => ?_)
            · exact absurd c6 (by decide)
            · refine go_aload_n dRef_takeTag_79 rfl ?_
              refine go_getf dRef_takeTag_80 qf_Ref_49 hRk1.1 rfl ?_
              refine go_iload_n dRef_takeTag_83 rfl ?_
              refine go_iconst (v := 4) dRef_takeTag_84 (by decide) ?_
              refine go_iadd dRef_takeTag_85 ?_
              refine go_top (y := nI (a + 8 + 4)) (by rw [show (4 : Int32) = nI 4 from rfl, nI_add]) ?_
              refine go_statP dRef_takeTag_86 ok_mRef_four st_mRef_four qm_Ref_199 (r_four (N := 2000) (f := A 13) (j := a + 8 + 4) (by omega) (by omega) hRk1.2.2.2.2.2.2.2.2.2.2.2.2.2.2.1) ?_ (hnp := np_mRef_four)
              refine go_top (y := fr p.1 (a + 8 + 4)) (by exact fr_ag h13 (by omega)) ?_
              refine go_iload dRef_takeTag_89 rfl ?_
              refine go_icmp_ne (tgt := 111) dRef_takeTag_91 (fun c7 => ?_) (fun c7 => ?_)
              · refine go_iconst (v := 0) dRef_takeTag_111 (by decide) ?_
                refine go_iret dRef_takeTag_112 rfl rfl ?_ (Nat.le_of_ble_eq_true rfl) (Nat.le_of_ble_eq_true rfl)
                exact tk_no (fun q => c7 ((q.2.2.resolve_left (by omega)).1)) hRk1 sk1 hb hG.1
              · refine go_aload_n dRef_takeTag_94 rfl ?_
                refine go_getf dRef_takeTag_95 qf_Ref_49 hRk1.1 rfl ?_
                refine go_iload_n dRef_takeTag_98 rfl ?_
                refine go_bipush (v := 8) dRef_takeTag_99 (by decide) ?_
                refine go_iadd dRef_takeTag_101 ?_
                refine go_top (y := nI (a + 8 + 8)) (by rw [show (8 : Int32) = nI 8 from rfl, nI_add]) ?_
                refine go_iald dRef_takeTag_102 hRk1.2.2.2.2.2.2.2.2.2.2.2.2.2.2.1 (by exact vp_in_nI (by omega) (by omega)) (congrArg _ (nI_clamp (by omega))) ?_
                refine go_top (y := p.1 (a + 8 + 8)) (by exact h13 _ (by omega)) ?_
                refine go_iconst (v := 1) dRef_takeTag_103 (by decide) ?_
                refine go_icmp_ne (tgt := 111) dRef_takeTag_104 (fun c8 => ?_) (fun c8 => ?_)
                · refine go_iconst (v := 0) dRef_takeTag_111 (by decide) ?_
                  refine go_iret dRef_takeTag_112 rfl rfl ?_ (Nat.le_of_ble_eq_true rfl) (Nat.le_of_ble_eq_true rfl)
                  exact tk_no (fun q => c8 ((q.2.2.resolve_left (by omega)).2)) hRk1 sk1 hb hG.1
                · refine go_iconst (v := 1) dRef_takeTag_107 (by decide) ?_
                  refine go_goto (tgt := 112) dRef_takeTag_108 ?_
                  refine go_iret dRef_takeTag_112 rfl rfl ?_ (Nat.le_of_ble_eq_true rfl) (Nat.le_of_ble_eq_true rfl)
                  exact tk_yes ⟨ll, c5, Or.inr ⟨c7, c8⟩⟩ hRk1 sk1 hb (hG.tag h8 (by omega) (tgOk_m c5) (fun q => absurd q (by omega)) (by omega))
        · exact absurd c4 (by decide)
      · refine go_iconst (v := 0) dRef_takeTag_23 (by decide) ?_
        refine go_iret dRef_takeTag_24 rfl rfl ?_ (Nat.le_of_ble_eq_true rfl) (Nat.le_of_ble_eq_true rfl)
        exact tk_no (fun q => c3 (by rw [q.1]; rfl)) hR hs hb hG.1
    · obtain rfl : t = 1 := (nI_inj (b := 1) (by omega) (by omega)).mp c2
      refine go_iconst (v := 1) dRef_takeTag_14 (by decide) ?_
      refine go_goto (tgt := 20) dRef_takeTag_15 ?_
      refine go_icmp_eq (tgt := 25) dRef_takeTag_20 (fun c3 => ?_) (fun c3 => ?_)
      · have ll : l = 1 := (nI_inj (b := 1) (by omega) (by omega)).mp c3
        refine go_iload_n dRef_takeTag_25 rfl ?_
        refine go_iconst (v := 1) dRef_takeTag_26 (by decide) ?_
        refine go_icmp_ne (tgt := 39) dRef_takeTag_27 (fun c4 => ?_) (fun c4 => ?_)
        · exact absurd rfl c4
        · refine go_aload_n dRef_takeTag_30 rfl ?_
          refine go_getf dRef_takeTag_31 qf_Ref_49 hR.1 rfl ?_
          refine go_iload_n dRef_takeTag_34 rfl ?_
          refine go_iald dRef_takeTag_35 hR.2.2.2.2.2.2.2.2.2.2.2.2.2.2.1 (by exact vp_in_nI (by omega) (by omega)) (congrArg _ (nI_clamp (by omega))) ?_
          refine go_goto (tgt := 47) dRef_takeTag_36 ?_
          refine go_top (y := tgV p a 1) (by exact h13 _ (by omega)) ?_
          refine go_istore dRef_takeTag_47 ?_
          refine go_aload_n dRef_takeTag_49 rfl ?_
          refine go_getf dRef_takeTag_50 qf_Ref_55 hR.1 rfl ?_
          refine go_iload_n dRef_takeTag_53 rfl ?_
          refine go_iconst (v := 1) dRef_takeTag_54 (by decide) ?_
          refine go_zast dRef_takeTag_55 hR.2.2.2.2.2.2.2.2.2.2.2.2.2.2.2.2 (by exact vp_in_nI (by omega) (by omega)) (nI_clamp (by omega)) (by simp) ?_
          refine go_aload_n dRef_takeTag_56 rfl ?_
          refine go_getf dRef_takeTag_57 qf_Ref_34 ((pmU_n _ _ (by omega)).trans hR.1) rfl ?_
          refine go_iload_n dRef_takeTag_60 rfl ?_
          refine go_iload dRef_takeTag_61 rfl ?_
          refine go_iast dRef_takeTag_63 ((pmU_n _ _ (by omega)).trans hR.2.2.2.2.2.2.2.2.2.1) (by exact vp_in_nI (by omega) (by omega)) (nI_clamp (by omega)) ?_
          refine go_nm (fun hnk2 enk2 => ?_)
          have gsk2 : Sm h hnk2 m 17 := by rw [enk2]; exact (Sm.put' (Sm.put' (Sm.refl _ _ _) _ (by omega) (by omega)) _ (by omega) (by omega))
          have hRk2 : RfA hnk2 m (g) (uA (uA A 15 (upd (A 15) 1 1)) 8 (upd (A 8) 1 (tgV p a 1))) := ⟨(congrFun enk2 m).trans ((pmU_n _ _ (by omega)).trans ((pmU_n _ _ (by omega)).trans hR.1)), (congrFun enk2 (m + 1)).trans ((pmU_n _ _ (by omega)).trans ((pmU_n _ _ (by omega)).trans hR.2.1)), (congrFun enk2 (m + 2)).trans ((pmU_n _ _ (by omega)).trans ((pmU_n _ _ (by omega)).trans hR.2.2.1)), (congrFun enk2 (m + 3)).trans ((pmU_n _ _ (by omega)).trans ((pmU_n _ _ (by omega)).trans hR.2.2.2.1)), (congrFun enk2 (m + 4)).trans ((pmU_n _ _ (by omega)).trans ((pmU_n _ _ (by omega)).trans hR.2.2.2.2.1)), (congrFun enk2 (m + 5)).trans ((pmU_n _ _ (by omega)).trans ((pmU_n _ _ (by omega)).trans hR.2.2.2.2.2.1)), (congrFun enk2 (m + 6)).trans ((pmU_n _ _ (by omega)).trans ((pmU_n _ _ (by omega)).trans hR.2.2.2.2.2.2.1)), (congrFun enk2 (m + 7)).trans ((pmU_n _ _ (by omega)).trans ((pmU_n _ _ (by omega)).trans hR.2.2.2.2.2.2.2.1)), (congrFun enk2 (m + 8)).trans ((pmU_n _ _ (by omega)).trans ((pmU_n _ _ (by omega)).trans hR.2.2.2.2.2.2.2.2.1)), (congrFun enk2 (m + 9)).trans (pmU_s _ _ _), (congrFun enk2 (m + 10)).trans ((pmU_n _ _ (by omega)).trans ((pmU_n _ _ (by omega)).trans hR.2.2.2.2.2.2.2.2.2.2.1)), (congrFun enk2 (m + 11)).trans ((pmU_n _ _ (by omega)).trans ((pmU_n _ _ (by omega)).trans hR.2.2.2.2.2.2.2.2.2.2.2.1)), (congrFun enk2 (m + 12)).trans ((pmU_n _ _ (by omega)).trans ((pmU_n _ _ (by omega)).trans hR.2.2.2.2.2.2.2.2.2.2.2.2.1)), (congrFun enk2 (m + 13)).trans ((pmU_n _ _ (by omega)).trans ((pmU_n _ _ (by omega)).trans hR.2.2.2.2.2.2.2.2.2.2.2.2.2.1)), (congrFun enk2 (m + 14)).trans ((pmU_n _ _ (by omega)).trans ((pmU_n _ _ (by omega)).trans hR.2.2.2.2.2.2.2.2.2.2.2.2.2.2.1)), (congrFun enk2 (m + 15)).trans ((pmU_n _ _ (by omega)).trans ((pmU_n _ _ (by omega)).trans hR.2.2.2.2.2.2.2.2.2.2.2.2.2.2.2.1)), (congrFun enk2 (m + 16)).trans ((pmU_n _ _ (by omega)).trans (pmU_s _ _ _))⟩
          have sk2 := hs.trans gsk2
          refine go_iload_n dRef_takeTag_64 rfl ?_
          refine go_iload dRef_takeTag_65 rfl ?_
          refine go_i2l dRef_takeTag_67 ?_
          refine go_statP dRef_takeTag_68 ok_mRef_mayBe st_mRef_mayBe qm_Ref_107 r_mayBe ?_ (hnp := np_mRef_mayBe)
          refine go_ifeq_b (tgt := 111) dRef_takeTag_71 (fun c5 => ?_) (fun c5 => ?_)
          · refine go_iconst (v := 0) dRef_takeTag_111 (by decide) ?_
            refine go_iret dRef_takeTag_112 rfl rfl ?_ (Nat.le_of_ble_eq_true rfl) (Nat.le_of_ble_eq_true rfl)
            exact tk_no (fun q => c5 q.2.1) hRk2 sk2 hb hG.1
          · refine go_iload_n dRef_takeTag_74 rfl ?_
            refine go_iconst (v := 2) dRef_takeTag_75 (by decide) ?_
            refine go_icmp_lt (tgt := 107) dRef_takeTag_76 (fun c6 => ?_) (fun c6 => ?_)
            · refine go_iconst (v := 1) dRef_takeTag_107 (by decide) ?_
              refine go_goto (tgt := 112) dRef_takeTag_108 ?_
              refine go_iret dRef_takeTag_112 rfl rfl ?_ (Nat.le_of_ble_eq_true rfl) (Nat.le_of_ble_eq_true rfl)
              exact tk_yes ⟨ll, c5, Or.inl (by omega)⟩ hRk2 sk2 hb (hG.tag h8 (by omega) (tgOk_m c5) (fun _ => hB _ (by omega)) (by omega))
            · exact absurd (by decide) c6
      · refine go_iconst (v := 0) dRef_takeTag_23 (by decide) ?_
        refine go_iret dRef_takeTag_24 rfl rfl ?_ (Nat.le_of_ble_eq_true rfl) (Nat.le_of_ble_eq_true rfl)
        exact tk_no (fun q => c3 (by rw [q.1]; rfl)) hR hs hb hG.1
  · obtain rfl : t = 0 := (nI_inj (b := 0) (by omega) (by omega)).mp c1
    refine go_iconst (v := 4) dRef_takeTag_5 (by decide) ?_
    refine go_goto (tgt := 20) dRef_takeTag_6 ?_
    refine go_icmp_eq (tgt := 25) dRef_takeTag_20 (fun c2 => ?_) (fun c2 => ?_)
    · have ll : l = 4 := (nI_inj (b := 4) (by omega) (by omega)).mp c2
      refine go_iload_n dRef_takeTag_25 rfl ?_
      refine go_iconst (v := 1) dRef_takeTag_26 (by decide) ?_
      refine go_icmp_ne (tgt := 39) dRef_takeTag_27 (fun c3 => ?_) (fun c3 => ?_)
      · refine go_aload_n dRef_takeTag_39 rfl ?_
        refine go_getf dRef_takeTag_40 qf_Ref_49 hR.1 rfl ?_
        refine go_iload_n dRef_takeTag_43 rfl ?_
        refine go_statP dRef_takeTag_44 ok_mRef_four st_mRef_four qm_Ref_199 (r_four (N := 2000) (f := A 13) (j := a + 8) (by omega) (by omega) hR.2.2.2.2.2.2.2.2.2.2.2.2.2.2.1) ?_ (hnp := np_mRef_four)
        refine go_top (y := tgV p a 0) (by exact fr_ag h13 (by omega)) ?_
        refine go_istore dRef_takeTag_47 ?_
        refine go_aload_n dRef_takeTag_49 rfl ?_
        refine go_getf dRef_takeTag_50 qf_Ref_55 hR.1 rfl ?_
        refine go_iload_n dRef_takeTag_53 rfl ?_
        refine go_iconst (v := 1) dRef_takeTag_54 (by decide) ?_
        refine go_zast dRef_takeTag_55 hR.2.2.2.2.2.2.2.2.2.2.2.2.2.2.2.2 (by exact vp_in_nI (by omega) (by omega)) (nI_clamp (by omega)) (by simp) ?_
        refine go_aload_n dRef_takeTag_56 rfl ?_
        refine go_getf dRef_takeTag_57 qf_Ref_34 ((pmU_n _ _ (by omega)).trans hR.1) rfl ?_
        refine go_iload_n dRef_takeTag_60 rfl ?_
        refine go_iload dRef_takeTag_61 rfl ?_
        refine go_iast dRef_takeTag_63 ((pmU_n _ _ (by omega)).trans hR.2.2.2.2.2.2.2.2.2.1) (by exact vp_in_nI (by omega) (by omega)) (nI_clamp (by omega)) ?_
        refine go_nm (fun hnk3 enk3 => ?_)
        have gsk3 : Sm h hnk3 m 17 := by rw [enk3]; exact (Sm.put' (Sm.put' (Sm.refl _ _ _) _ (by omega) (by omega)) _ (by omega) (by omega))
        have hRk3 : RfA hnk3 m (g) (uA (uA A 15 (upd (A 15) 0 1)) 8 (upd (A 8) 0 (tgV p a 0))) := ⟨(congrFun enk3 m).trans ((pmU_n _ _ (by omega)).trans ((pmU_n _ _ (by omega)).trans hR.1)), (congrFun enk3 (m + 1)).trans ((pmU_n _ _ (by omega)).trans ((pmU_n _ _ (by omega)).trans hR.2.1)), (congrFun enk3 (m + 2)).trans ((pmU_n _ _ (by omega)).trans ((pmU_n _ _ (by omega)).trans hR.2.2.1)), (congrFun enk3 (m + 3)).trans ((pmU_n _ _ (by omega)).trans ((pmU_n _ _ (by omega)).trans hR.2.2.2.1)), (congrFun enk3 (m + 4)).trans ((pmU_n _ _ (by omega)).trans ((pmU_n _ _ (by omega)).trans hR.2.2.2.2.1)), (congrFun enk3 (m + 5)).trans ((pmU_n _ _ (by omega)).trans ((pmU_n _ _ (by omega)).trans hR.2.2.2.2.2.1)), (congrFun enk3 (m + 6)).trans ((pmU_n _ _ (by omega)).trans ((pmU_n _ _ (by omega)).trans hR.2.2.2.2.2.2.1)), (congrFun enk3 (m + 7)).trans ((pmU_n _ _ (by omega)).trans ((pmU_n _ _ (by omega)).trans hR.2.2.2.2.2.2.2.1)), (congrFun enk3 (m + 8)).trans ((pmU_n _ _ (by omega)).trans ((pmU_n _ _ (by omega)).trans hR.2.2.2.2.2.2.2.2.1)), (congrFun enk3 (m + 9)).trans (pmU_s _ _ _), (congrFun enk3 (m + 10)).trans ((pmU_n _ _ (by omega)).trans ((pmU_n _ _ (by omega)).trans hR.2.2.2.2.2.2.2.2.2.2.1)), (congrFun enk3 (m + 11)).trans ((pmU_n _ _ (by omega)).trans ((pmU_n _ _ (by omega)).trans hR.2.2.2.2.2.2.2.2.2.2.2.1)), (congrFun enk3 (m + 12)).trans ((pmU_n _ _ (by omega)).trans ((pmU_n _ _ (by omega)).trans hR.2.2.2.2.2.2.2.2.2.2.2.2.1)), (congrFun enk3 (m + 13)).trans ((pmU_n _ _ (by omega)).trans ((pmU_n _ _ (by omega)).trans hR.2.2.2.2.2.2.2.2.2.2.2.2.2.1)), (congrFun enk3 (m + 14)).trans ((pmU_n _ _ (by omega)).trans ((pmU_n _ _ (by omega)).trans hR.2.2.2.2.2.2.2.2.2.2.2.2.2.2.1)), (congrFun enk3 (m + 15)).trans ((pmU_n _ _ (by omega)).trans ((pmU_n _ _ (by omega)).trans hR.2.2.2.2.2.2.2.2.2.2.2.2.2.2.2.1)), (congrFun enk3 (m + 16)).trans ((pmU_n _ _ (by omega)).trans (pmU_s _ _ _))⟩
        have sk3 := hs.trans gsk3
        refine go_iload_n dRef_takeTag_64 rfl ?_
        refine go_iload dRef_takeTag_65 rfl ?_
        refine go_i2l dRef_takeTag_67 ?_
        refine go_statP dRef_takeTag_68 ok_mRef_mayBe st_mRef_mayBe qm_Ref_107 r_mayBe ?_ (hnp := np_mRef_mayBe)
        refine go_ifeq_b (tgt := 111) dRef_takeTag_71 (fun c4 => ?_) (fun c4 => ?_)
        · refine go_iconst (v := 0) dRef_takeTag_111 (by decide) ?_
          refine go_iret dRef_takeTag_112 rfl rfl ?_ (Nat.le_of_ble_eq_true rfl) (Nat.le_of_ble_eq_true rfl)
          exact tk_no (fun q => c4 q.2.1) hRk3 sk3 hb hG.1
        · refine go_iload_n dRef_takeTag_74 rfl ?_
          refine go_iconst (v := 2) dRef_takeTag_75 (by decide) ?_
          refine go_icmp_lt (tgt := 107) dRef_takeTag_76 (fun c5 => ?_) (fun c5 => ?_)
          · refine go_iconst (v := 1) dRef_takeTag_107 (by decide) ?_
            refine go_goto (tgt := 112) dRef_takeTag_108 ?_
            refine go_iret dRef_takeTag_112 rfl rfl ?_ (Nat.le_of_ble_eq_true rfl) (Nat.le_of_ble_eq_true rfl)
            exact tk_yes ⟨ll, c4, Or.inl (by omega)⟩ hRk3 sk3 hb (hG.tag h8 (by omega) (tgOk_m c4) (fun q => absurd q (by omega)) (by omega))
          · exact absurd (by decide) c5
      · exact absurd c3 (by decide)
    · refine go_iconst (v := 0) dRef_takeTag_23 (by decide) ?_
      refine go_iret dRef_takeTag_24 rfl rfl ?_ (Nat.le_of_ble_eq_true rfl) (Nat.le_of_ble_eq_true rfl)
      exact tk_no (fun q => c2 (by rw [q.1]; rfl)) hR hs hb hG.1
