/-! ===== the reference: chunks of others, takes (by wip/whole/gen_rRd3.py) ===== -/
theorem exB_v (f : Nat → Int32) (d k : Nat) : ∀ (n i : Nat) (e : aExt), e.2.1 k = i → (exB f d k n i e).1 = e.1 ∧ (exB f d k n i e).2.2.2 = e.2.2.2 ∧ (∀ j, (exB f d k n i e).2.1 j = if j = k then i + n else e.2.1 j) ∧ ∀ j, (exB f d k n i e).2.2.1 j = if 40 * k + i ≤ j ∧ j < 40 * k + i + n then f (d + (j - 40 * k)) else e.2.2.1 j := by
  intro n
  induction n with
  | zero =>
    intro i e hi
    refine ⟨rfl, rfl, fun j => ?_, fun j => ?_⟩
    · by_cases q : j = k
      · rw [if_pos q, q]; exact hi
      · rw [if_neg q]; rfl
    · rw [if_neg (by omega)]; rfl
  | succ n ih =>
    intro i e hi
    rw [exB]
    have hs : (exAddB e k (f (d + i))).2.1 k = i + 1 := by
      show updN e.2.1 k (e.2.1 k + 1) k = _
      unfold updN
      rw [if_pos rfl, hi]
    obtain ⟨h1, h2, h3, h4⟩ := ih (i + 1) (exAddB e k (f (d + i))) hs
    refine ⟨h1, h2, fun j => ?_, fun j => ?_⟩
    · rw [h3 j]
      by_cases q : j = k
      · rw [if_pos q, if_pos q]; omega
      · rw [if_neg q, if_neg q]
        show updN e.2.1 k (e.2.1 k + 1) j = _
        unfold updN
        rw [if_neg q]
    · rw [h4 j]
      by_cases q : 40 * k + (i + 1) ≤ j ∧ j < 40 * k + (i + 1) + n
      · rw [if_pos q, if_pos (by omega)]
      · rw [if_neg q]
        show upd e.2.2.1 (40 * k + e.2.1 k) (f (d + i)) j = _
        rw [hi]
        by_cases q2 : j = 40 * k + i
        · subst q2
          rw [pk_us, if_pos (by omega)]
          congr 1
          omega
        · rw [pk_un q2, if_neg (by omega)]
theorem ex_st {f g : Nat → Int32} {p : aRow} {a c k : Nat} (h : ∀ j, f j = if 40 * c ≤ j ∧ j < 40 * c + k then p.1 (a + 8 + (j - 40 * c)) else g j) : ∀ j, upd f (40 * c + k) (p.1 (a + 8 + k)) j = if 40 * c ≤ j ∧ j < 40 * c + (k + 1) then p.1 (a + 8 + (j - 40 * c)) else g j := fun j => by
  by_cases e : j = 40 * c + k
  · subst e
    rw [pk_us, if_pos (by omega)]
    exact congrArg p.1 (by omega)
  · rw [pk_un e, h j]
    by_cases q : 40 * c ≤ j ∧ j < 40 * c + k
    · rw [if_pos q, if_pos (by omega)]
    · rw [if_neg q, if_neg (by omega)]
theorem RG.ext {g : Nat → Int32} {A : Nat → Nat → Int32} {S : aRs} {p : aRow} {a b l : Nat} {x : Int32} {f : Nat → Int32} (hG : RG g A S a) (h8 : ¬ S.2.2 8 = 0) (hok : exK l S.1.2) (hx : exOk x) (h6 : S.2.2 6 = x) (hB : AllB p) (hf : a + 8 + l ≤ p.2) (hA : ∀ j, f j = if 40 * S.1.2.2.2.2.2.2.2.2 ≤ j ∧ j < 40 * S.1.2.2.2.2.2.2.2.2 + l then p.1 (a + 8 + (j - 40 * S.1.2.2.2.2.2.2.2.2)) else A 11 j) (hab : a ≤ b) : RG (upd g 23 (nI (S.1.2.2.2.2.2.2.2.2 + 1))) (uA (uA (uA A 9 (upd (A 9) S.1.2.2.2.2.2.2.2.2 x)) 10 (upd (A 10) S.1.2.2.2.2.2.2.2.2 (nI l))) 11 f) (exS p a l S) b := by
  obtain ⟨q1, q2, q3, q4⟩ := hG.hd h8
  obtain ⟨v1, v2, v3, v4⟩ := exB_v p.1 (a + 8) S.1.2.2.2.2.2.2.2.2 l 0 (exAdd S.1.2.2.2.2.2 (S.2.2 6)) (by show updN _ _ 0 _ = 0; unfold updN; rw [if_pos rfl])
  obtain ⟨e1, e2, e3⟩ := q2.2.2.2.2
  have hE : (exS p a l S).1.2.2.2.2.2 = exB p.1 (a + 8) S.1.2.2.2.2.2.2.2.2 l 0 (exAdd S.1.2.2.2.2.2 (S.2.2 6)) := rfl
  have hc : (exAdd S.1.2.2.2.2.2 (S.2.2 6)).2.2.2 = S.1.2.2.2.2.2.2.2.2 + 1 := rfl
  have hsz : ∀ k, k < S.1.2.2.2.2.2.2.2.2 → (exS p a l S).1.2.2.2.2.2.2.1 k = S.1.2.2.2.2.2.2.1 k := fun k hk => by
    rw [hE, v3 k, if_neg (by omega)]
    show updN _ _ 0 k = _
    unfold updN
    rw [if_neg (by omega)]
  have hs0 : (exS p a l S).1.2.2.2.2.2.2.1 S.1.2.2.2.2.2.2.2.2 = l := by rw [hE, v3, if_pos rfl, Nat.zero_add]
  refine ⟨hG.1, hG.2.1, hG.2.2.1, hG.2.2.2.1, fun q => absurd q h8, fun _ => ⟨q1, ⟨q2.1, q2.2.1, q2.2.2.1, ⟨?_, ?_, ?_, ?_⟩⟩, ⟨q3.1, q3.2.1, ⟨?_, fun k hk => ⟨?_, fun i hi => ?_⟩⟩, q3.2.2.2⟩, q4⟩, hG.2.2.2.2.2.2.1.le hab, hG.2.2.2.2.2.2.2⟩
  · show nI _ = nI _
    rw [hE, v2, hc]
  · rw [hE, v1, v2, hc]
    show Ag _ (upd (A 9) _ x) (upd _ _ _)
    rw [h6]
    exact e1.push x
  · intro k hk
    rw [hE, v2, hc] at hk
    show upd (A 10) _ (nI l) k = _ ∧ _
    by_cases q : k = S.1.2.2.2.2.2.2.2.2
    · subst q
      rw [pk_us, hs0]
      exact ⟨rfl, hok.1⟩
    · rw [pk_un q, hsz k (by omega)]
      exact e2 k (by omega)
  · intro k hk i hi
    rw [hE, v2, hc] at hk
    show f (40 * k + i) = _
    rw [hA, hE, v4]
    by_cases q : 40 * S.1.2.2.2.2.2.2.2.2 ≤ 40 * k + i ∧ 40 * k + i < 40 * S.1.2.2.2.2.2.2.2.2 + l
    · rw [if_pos q, if_pos (by omega)]
    · rw [if_neg q, if_neg (by omega)]
      by_cases q2 : k = S.1.2.2.2.2.2.2.2.2
      · subst q2
        rw [hs0] at hi
        omega
      · rw [hsz k (by omega)] at hi
        exact e3 k (by omega) i hi
  · rw [hE, v2, hc]
    have := hok.2
    omega
  · rw [hE, v2, hc] at hk
    rw [hE, v1]
    show exOk (upd _ _ _ k)
    by_cases q : k = S.1.2.2.2.2.2.2.2.2
    · subst q; rw [pk_us, h6]; exact hx
    · rw [pk_un q]; exact (q3.2.2.1.2 k (by omega)).1
  · rw [hE, v2, hc] at hk
    rw [hE, v4]
    by_cases q : k = S.1.2.2.2.2.2.2.2.2
    · subst q
      rw [hs0] at hi
      rw [if_pos (by omega)]
      exact hB _ (by omega)
    · rw [hsz k (by omega)] at hi
      have := (e2 k (by omega)).2
      rw [if_neg (by omega)]
      exact (q3.2.2.1.2 k (by omega)).2 i hi
theorem RG.le {g : Nat → Int32} {A : Nat → Nat → Int32} {S : aRs} {a b : Nat} (hG : RG g A S a) (hab : a ≤ b) : RG g A S b := ⟨hG.1, hG.2.1, hG.2.2.1, hG.2.2.2.1, hG.2.2.2.2.1, hG.2.2.2.2.2.1, hG.2.2.2.2.2.2.1.le hab, hG.2.2.2.2.2.2.2⟩
theorem tk_cv {m : Nat} {h h' : pmH} {z : Option Nat} {d : Bool} {o : Bool × aPic} {w p : aRow} {ok ok' : Prop} [Decidable ok] [Decidable ok'] {S S' : aRs} {a : Nat} (e : ok' ↔ ok) (eS : S' = S) (q : TkP m h o w p ok S a h') : RetX (some (.int (bI ok'))) (TkP m h o w p ok' S' a) z (.inl (some (.int (bI ok)))) (h', z, d) := by
  subst eS
  refine retX_e (by rw [bI_c e]) ?_
  obtain ⟨g, A, h1, h2, h3, h4, h5⟩ := q
  exact ⟨g, A, h1, h2, h3, h4, fun y => h5 (e.mp y)⟩
theorem ord_h8 {S : aRs} {x : Int32} (h : ¬ ordW S.2.2 S.1.2) (h6 : S.2.2 6 = x) (e : ¬ x = 1229472850) : ¬ S.2.2 8 = 0 := fun h8 => h (by rw [ordW, if_pos h8, h6]; exact e)
theorem ord_h0 {S : aRs} {x : Int32} (h : ¬ ordW S.2.2 S.1.2) (h6 : S.2.2 6 = x) (e : x = 1229472850) : S.2.2 8 = 0 := Decidable.byContradiction fun h8 => h (by
  rw [ordW, if_neg h8, h6, e, if_neg (by decide), if_neg (by decide), if_pos rfl]; trivial)
theorem ord_pal2 {a : Nat} {S : aRs} (hI : RInv S a) (h : ¬ ordW S.2.2 S.1.2) (e6 : S.2.2 6 = 1347179589) : S.1.2.2.2.1.2 = 0 := by
  have h8 := ord_h8 h e6 (by decide)
  refine hI.1 h8 (Decidable.not_not.mp fun h9 => h ?_)
  rw [ordW, if_neg h8, e6, if_neg (by decide), if_neg (by decide), if_neg (by decide), if_pos rfl]
  exact Or.inr (Or.inl h9)
set_option maxHeartbeats 4000000 in
theorem l_Ref_takeEx {E : pmEv} {h0 : pmH} {z : Option Nat} {m : Nat} {g : Nat → Int32} {A : Nat → Nat → Int32} {o : Bool × aPic} {w p : aRow} {a l a2 : Nat} {S2 : aRs} {ok : Prop} [Decidable ok] {x : Int32} {c : Nat} (h23 : g 23 = nI c) (hc6 : c < 6) (hl40 : l ≤ 40) (hb : RB g A o w p) (hfin : ∀ f, (∀ j, f j = if 40 * c ≤ j ∧ j < 40 * c + l then p.1 (a + 8 + (j - 40 * c)) else A 11 j) → RG (upd g 23 (nI (c + 1))) (uA (uA (uA A 9 (upd (A 9) c x)) 10 (upd (A 10) c (nI l))) 11 f) S2 a2) (hy : ok) (hp : p.2 ≤ 2000) (hf : a + 12 + l ≤ p.2) : ∀ (n : Nat) (k : Nat) (f : Nat → Int32) (h : pmH) (d : Bool), k + n = l → RfA h m g (uA (uA (uA A 9 (upd (A 9) c x)) 10 (upd (A 10) c (nI l))) 11 f) → (∀ j, f j = if 40 * c ≤ j ∧ j < 40 * c + k then p.1 (a + 8 + (j - 40 * c)) else A 11 j) → Sm h0 h m 17 → Go E (mRef_takeExtra, h0, 0, 0) 40 [some (.ref m), some (.int x), some (.int (nI (a + 8))), some (.int (nI l)), some (.int (nI (k)))] [] (h, z, d) 0 0 (RetX (some (.int (bI ok))) (TkP m h0 o w p ok S2 a2) z) := by
  intro n
  induction n with
  | zero =>
    intro k f h d hk hR hA hs
    have h13 := hb.2.2.1.2
    refine go_iload dRef_takeExtra_40 rfl ?_
    refine go_iload_n dRef_takeExtra_42 rfl ?_
    refine go_icmp_ge (tgt := 76) dRef_takeExtra_43 (fun c1 => ?_) (fun c1 => ?_)
    · have hkl : k = l := by omega
      refine go_aload_n dRef_takeExtra_76 rfl ?_
      refine go_dup dRef_takeExtra_77 rfl ?_
      refine go_getf dRef_takeExtra_78 qf_Ref_248 hR.1 rfl ?_
      refine go_iconst (v := 1) dRef_takeExtra_81 (by decide) ?_
      refine go_iadd dRef_takeExtra_82 ?_
      refine go_top (y := nI (c + 1)) (by rw [h23]; exact nI_a1 _) ?_
      refine go_putf dRef_takeExtra_83 qf_Ref_248 pw_8_23 hR.1 rfl rfl ?_
      refine go_nm (fun hnk1 enk1 => ?_)
      have gsk1 : Sm h hnk1 m 17 := by rw [enk1]; exact (Sm.put' (Sm.refl _ _ _) _ (by omega) (by omega))
      have hRk1 : RfA hnk1 m (upd g 23 (nI (c + 1))) ((uA (uA (uA A 9 (upd (A 9) c x)) 10 (upd (A 10) c (nI l))) 11 f)) := ⟨(congrFun enk1 m).trans (pmU_s _ _ _), (congrFun enk1 (m + 1)).trans ((pmU_n _ _ (by omega)).trans hR.2.1), (congrFun enk1 (m + 2)).trans ((pmU_n _ _ (by omega)).trans hR.2.2.1), (congrFun enk1 (m + 3)).trans ((pmU_n _ _ (by omega)).trans hR.2.2.2.1), (congrFun enk1 (m + 4)).trans ((pmU_n _ _ (by omega)).trans hR.2.2.2.2.1), (congrFun enk1 (m + 5)).trans ((pmU_n _ _ (by omega)).trans hR.2.2.2.2.2.1), (congrFun enk1 (m + 6)).trans ((pmU_n _ _ (by omega)).trans hR.2.2.2.2.2.2.1), (congrFun enk1 (m + 7)).trans ((pmU_n _ _ (by omega)).trans hR.2.2.2.2.2.2.2.1), (congrFun enk1 (m + 8)).trans ((pmU_n _ _ (by omega)).trans hR.2.2.2.2.2.2.2.2.1), (congrFun enk1 (m + 9)).trans ((pmU_n _ _ (by omega)).trans hR.2.2.2.2.2.2.2.2.2.1), (congrFun enk1 (m + 10)).trans ((pmU_n _ _ (by omega)).trans hR.2.2.2.2.2.2.2.2.2.2.1), (congrFun enk1 (m + 11)).trans ((pmU_n _ _ (by omega)).trans hR.2.2.2.2.2.2.2.2.2.2.2.1), (congrFun enk1 (m + 12)).trans ((pmU_n _ _ (by omega)).trans hR.2.2.2.2.2.2.2.2.2.2.2.2.1), (congrFun enk1 (m + 13)).trans ((pmU_n _ _ (by omega)).trans hR.2.2.2.2.2.2.2.2.2.2.2.2.2.1), (congrFun enk1 (m + 14)).trans ((pmU_n _ _ (by omega)).trans hR.2.2.2.2.2.2.2.2.2.2.2.2.2.2.1), (congrFun enk1 (m + 15)).trans ((pmU_n _ _ (by omega)).trans hR.2.2.2.2.2.2.2.2.2.2.2.2.2.2.2.1), (congrFun enk1 (m + 16)).trans ((pmU_n _ _ (by omega)).trans hR.2.2.2.2.2.2.2.2.2.2.2.2.2.2.2.2)⟩
      have sk1 := hs.trans gsk1
      refine go_iconst (v := 1) dRef_takeExtra_86 (by decide) ?_
      refine go_iret dRef_takeExtra_87 rfl rfl ?_ (Nat.le_of_ble_eq_true rfl) (Nat.le_of_ble_eq_true rfl)
      exact tk_yes hy hRk1 sk1 hb (hfin f (fun j => by rw [← hkl]; exact hA j))
    · exact absurd (nI_le (a := l) (b := k) (by omega) (by omega)) c1
  | succ n ih =>
    intro k f h d hk hR hA hs
    have h13 := hb.2.2.1.2
    refine go_iload dRef_takeExtra_40 rfl ?_
    refine go_iload_n dRef_takeExtra_42 rfl ?_
    refine go_icmp_ge (tgt := 76) dRef_takeExtra_43 (fun c1 => ?_) (fun c1 => ?_)
    · exact absurd c1 (nI_ge (a := k) (b := l) (by omega) (by omega))
    · refine go_aload_n dRef_takeExtra_46 rfl ?_
      refine go_getf dRef_takeExtra_47 qf_Ref_43 hR.1 rfl ?_
      refine go_bipush (v := 40) dRef_takeExtra_50 (by decide) ?_
      refine go_aload_n dRef_takeExtra_52 rfl ?_
      refine go_getf dRef_takeExtra_53 qf_Ref_248 hR.1 rfl ?_
      refine go_imul dRef_takeExtra_56 ?_
      refine go_iload dRef_takeExtra_57 rfl ?_
      refine go_iadd dRef_takeExtra_59 ?_
      refine go_top (y := nI (40 * c + k)) (by rw [h23, show (40 : Int32) = nI 40 from rfl, pk_mul, nI_add]) ?_
      refine go_aload_n dRef_takeExtra_60 rfl ?_
      refine go_getf dRef_takeExtra_61 qf_Ref_49 hR.1 rfl ?_
      refine go_iload_n dRef_takeExtra_64 rfl ?_
      refine go_iload dRef_takeExtra_65 rfl ?_
      refine go_iadd dRef_takeExtra_67 ?_
      refine go_top (y := nI (a + 8 + k)) (by rw [nI_add]) ?_
      refine go_iald dRef_takeExtra_68 hR.2.2.2.2.2.2.2.2.2.2.2.2.2.2.1 (by exact vp_in_nI (by omega) (by omega)) (congrArg _ (nI_clamp (by omega))) ?_
      refine go_top (y := p.1 (a + 8 + k)) (by exact h13 _ (by omega)) ?_
      refine go_iast dRef_takeExtra_69 hR.2.2.2.2.2.2.2.2.2.2.2.2.1 (by exact vp_in_nI (by omega) (by omega)) (nI_clamp (by omega)) ?_
      refine go_iinc dRef_takeExtra_70 rfl (congrArg (_ + ·) lit1) ?_
      refine go_goto (tgt := 40) dRef_takeExtra_73 ?_
      refine go_nm (fun hnk1 enk1 => ?_)
      have gsk1 : Sm h hnk1 m 17 := by rw [enk1]; exact (Sm.put' (Sm.refl _ _ _) _ (by omega) (by omega))
      have hRk1 : RfA hnk1 m (g) ((uA (uA (uA A 9 (upd (A 9) c x)) 10 (upd (A 10) c (nI l))) 11 (upd f (40 * c + k) (p.1 (a + 8 + k))))) := ⟨(congrFun enk1 m).trans ((pmU_n _ _ (by omega)).trans hR.1), (congrFun enk1 (m + 1)).trans ((pmU_n _ _ (by omega)).trans hR.2.1), (congrFun enk1 (m + 2)).trans ((pmU_n _ _ (by omega)).trans hR.2.2.1), (congrFun enk1 (m + 3)).trans ((pmU_n _ _ (by omega)).trans hR.2.2.2.1), (congrFun enk1 (m + 4)).trans ((pmU_n _ _ (by omega)).trans hR.2.2.2.2.1), (congrFun enk1 (m + 5)).trans ((pmU_n _ _ (by omega)).trans hR.2.2.2.2.2.1), (congrFun enk1 (m + 6)).trans ((pmU_n _ _ (by omega)).trans hR.2.2.2.2.2.2.1), (congrFun enk1 (m + 7)).trans ((pmU_n _ _ (by omega)).trans hR.2.2.2.2.2.2.2.1), (congrFun enk1 (m + 8)).trans ((pmU_n _ _ (by omega)).trans hR.2.2.2.2.2.2.2.2.1), (congrFun enk1 (m + 9)).trans ((pmU_n _ _ (by omega)).trans hR.2.2.2.2.2.2.2.2.2.1), (congrFun enk1 (m + 10)).trans ((pmU_n _ _ (by omega)).trans hR.2.2.2.2.2.2.2.2.2.2.1), (congrFun enk1 (m + 11)).trans ((pmU_n _ _ (by omega)).trans hR.2.2.2.2.2.2.2.2.2.2.2.1), (congrFun enk1 (m + 12)).trans (pmU_s _ _ _), (congrFun enk1 (m + 13)).trans ((pmU_n _ _ (by omega)).trans hR.2.2.2.2.2.2.2.2.2.2.2.2.2.1), (congrFun enk1 (m + 14)).trans ((pmU_n _ _ (by omega)).trans hR.2.2.2.2.2.2.2.2.2.2.2.2.2.2.1), (congrFun enk1 (m + 15)).trans ((pmU_n _ _ (by omega)).trans hR.2.2.2.2.2.2.2.2.2.2.2.2.2.2.2.1), (congrFun enk1 (m + 16)).trans ((pmU_n _ _ (by omega)).trans hR.2.2.2.2.2.2.2.2.2.2.2.2.2.2.2.2)⟩
      have sk1 := hs.trans gsk1
      exact go_at (ih (k + 1) _ _ _ (by omega) hRk1 (ex_st hA) sk1) rfl (by rw [nI_succ k]; rfl) rfl rfl
set_option maxHeartbeats 4000000 in
theorem r_takeExtra {E : pmEv} {h : pmH} {z : Option Nat} {m : Nat} {g : Nat → Int32} {A : Nat → Nat → Int32} {o : Bool × aPic} {w p : aRow} {S : aRs} {a l : Nat} {x : Int32} (h8 : ¬ S.2.2 8 = 0) (h6 : S.2.2 6 = x) (hx : exOk x) (hR : RfA h m g A) (hb : RB g A o w p) (hG : RG g A S a) (hp : p.2 ≤ 2000) (hB : AllB p) (hl : l ≤ 255) (hf : a + 12 + l ≤ p.2) : Call E mRef_takeExtra [.ref m, .int x, .int (nI (a + 8)), .int (nI l)] h z 0 0 (RetX (some (.int (bI (exK l S.1.2)))) (TkP m h o w p (exK l S.1.2) (exS p a l S) (a + 12 + l)) z) := by
  have hs : Sm h h m 17 := Sm.refl _ _ _
  have h13 := hb.2.2.1.2
  have hH := hG.hd h8
  have h66 := hH.2.2.1.2.2.1.1
  refine call_of (L := [some (.ref m), some (.int x), some (.int (nI (a + 8))), some (.int (nI l)), none]) ok_mRef_takeExtra (Nat.le_of_ble_eq_true rfl) ?_
  refine go_iload_n dRef_takeExtra_0 rfl ?_
  refine go_bipush (v := 40) dRef_takeExtra_1 (by decide) ?_
  refine go_icmp_gt (tgt := 15) dRef_takeExtra_3 (fun c1 => ?_) (fun c1 => ?_)
  · refine go_iconst (v := 0) dRef_takeExtra_15 (by decide) ?_
    refine go_iret dRef_takeExtra_16 rfl rfl ?_ (Nat.le_of_ble_eq_true rfl) (Nat.le_of_ble_eq_true rfl)
    exact tk_no (fun q => absurd c1 (Int32.not_lt.mpr (nI_le (b := 40) q.1 (by omega)))) hR hs hb hG.1
  · refine go_aload_n dRef_takeExtra_6 rfl ?_
    refine go_getf dRef_takeExtra_7 qf_Ref_248 hR.1 rfl ?_
    refine go_top (y := nI S.1.2.2.2.2.2.2.2.2) (by exact hH.2.1.2.2.2.1) ?_
    refine go_bipush (v := 6) dRef_takeExtra_10 (by decide) ?_
    refine go_icmp_ne (tgt := 17) dRef_takeExtra_12 (fun c2 => ?_) (fun c2 => ?_)
    · have hlt : S.1.2.2.2.2.2.2.2.2 < 6 := by have : ¬ S.1.2.2.2.2.2.2.2.2 = 6 := fun q => c2 (by rw [q]; rfl); omega
      refine go_aload_n dRef_takeExtra_17 rfl ?_
      refine go_getf dRef_takeExtra_18 qf_Ref_37 hR.1 rfl ?_
      refine go_aload_n dRef_takeExtra_21 rfl ?_
      refine go_getf dRef_takeExtra_22 qf_Ref_248 hR.1 rfl ?_
      refine go_top (y := nI S.1.2.2.2.2.2.2.2.2) (by exact hH.2.1.2.2.2.1) ?_
      refine go_iload_n dRef_takeExtra_25 rfl ?_
      refine go_iast dRef_takeExtra_26 hR.2.2.2.2.2.2.2.2.2.2.1 (by exact vp_in_nI (by omega) (by omega)) (nI_clamp (by omega)) ?_
      refine go_aload_n dRef_takeExtra_27 rfl ?_
      refine go_getf dRef_takeExtra_28 qf_Ref_40 ((pmU_n _ _ (by omega)).trans hR.1) rfl ?_
      refine go_aload_n dRef_takeExtra_31 rfl ?_
      refine go_getf dRef_takeExtra_32 qf_Ref_248 ((pmU_n _ _ (by omega)).trans hR.1) rfl ?_
      refine go_top (y := nI S.1.2.2.2.2.2.2.2.2) (by exact hH.2.1.2.2.2.1) ?_
      refine go_iload_n dRef_takeExtra_35 rfl ?_
      refine go_iast dRef_takeExtra_36 ((pmU_n _ _ (by omega)).trans hR.2.2.2.2.2.2.2.2.2.2.2.1) (by exact vp_in_nI (by omega) (by omega)) (nI_clamp (by omega)) ?_
      refine go_nm (fun hnk1 enk1 => ?_)
      have gsk1 : Sm h hnk1 m 17 := by rw [enk1]; exact (Sm.put' (Sm.put' (Sm.refl _ _ _) _ (by omega) (by omega)) _ (by omega) (by omega))
      have hRk1 : RfA hnk1 m (g) ((uA (uA A 9 (upd (A 9) S.1.2.2.2.2.2.2.2.2 x)) 10 (upd (A 10) S.1.2.2.2.2.2.2.2.2 (nI l)))) := ⟨(congrFun enk1 m).trans ((pmU_n _ _ (by omega)).trans ((pmU_n _ _ (by omega)).trans hR.1)), (congrFun enk1 (m + 1)).trans ((pmU_n _ _ (by omega)).trans ((pmU_n _ _ (by omega)).trans hR.2.1)), (congrFun enk1 (m + 2)).trans ((pmU_n _ _ (by omega)).trans ((pmU_n _ _ (by omega)).trans hR.2.2.1)), (congrFun enk1 (m + 3)).trans ((pmU_n _ _ (by omega)).trans ((pmU_n _ _ (by omega)).trans hR.2.2.2.1)), (congrFun enk1 (m + 4)).trans ((pmU_n _ _ (by omega)).trans ((pmU_n _ _ (by omega)).trans hR.2.2.2.2.1)), (congrFun enk1 (m + 5)).trans ((pmU_n _ _ (by omega)).trans ((pmU_n _ _ (by omega)).trans hR.2.2.2.2.2.1)), (congrFun enk1 (m + 6)).trans ((pmU_n _ _ (by omega)).trans ((pmU_n _ _ (by omega)).trans hR.2.2.2.2.2.2.1)), (congrFun enk1 (m + 7)).trans ((pmU_n _ _ (by omega)).trans ((pmU_n _ _ (by omega)).trans hR.2.2.2.2.2.2.2.1)), (congrFun enk1 (m + 8)).trans ((pmU_n _ _ (by omega)).trans ((pmU_n _ _ (by omega)).trans hR.2.2.2.2.2.2.2.2.1)), (congrFun enk1 (m + 9)).trans ((pmU_n _ _ (by omega)).trans ((pmU_n _ _ (by omega)).trans hR.2.2.2.2.2.2.2.2.2.1)), (congrFun enk1 (m + 10)).trans ((pmU_n _ _ (by omega)).trans (pmU_s _ _ _)), (congrFun enk1 (m + 11)).trans (pmU_s _ _ _), (congrFun enk1 (m + 12)).trans ((pmU_n _ _ (by omega)).trans ((pmU_n _ _ (by omega)).trans hR.2.2.2.2.2.2.2.2.2.2.2.2.1)), (congrFun enk1 (m + 13)).trans ((pmU_n _ _ (by omega)).trans ((pmU_n _ _ (by omega)).trans hR.2.2.2.2.2.2.2.2.2.2.2.2.2.1)), (congrFun enk1 (m + 14)).trans ((pmU_n _ _ (by omega)).trans ((pmU_n _ _ (by omega)).trans hR.2.2.2.2.2.2.2.2.2.2.2.2.2.2.1)), (congrFun enk1 (m + 15)).trans ((pmU_n _ _ (by omega)).trans ((pmU_n _ _ (by omega)).trans hR.2.2.2.2.2.2.2.2.2.2.2.2.2.2.2.1)), (congrFun enk1 (m + 16)).trans ((pmU_n _ _ (by omega)).trans ((pmU_n _ _ (by omega)).trans hR.2.2.2.2.2.2.2.2.2.2.2.2.2.2.2.2))⟩
      have sk1 := hs.trans gsk1
      refine go_iconst (v := 0) dRef_takeExtra_37 (by decide) ?_
      refine go_istore dRef_takeExtra_38 ?_
      have hok : exK l S.1.2 := ⟨(nI_leI (b := 40) (by omega) (by omega)).mp (Int32.not_lt.mp c1), by have : ¬ S.1.2.2.2.2.2.2.2.2 = 6 := fun q => c2 (by rw [q]; rfl); omega⟩
      exact go_at (l_Ref_takeEx (g := g) (S2 := exS p a l S) (a2 := a + 12 + l) (c := S.1.2.2.2.2.2.2.2.2) hH.2.1.2.2.2.1 hok.2 hok.1 hb (fun f hA => hG.ext h8 hok hx h6 hB (by omega) hA (by omega)) hok hp hf l 0 (A 11) _ _ (by omega) hRk1 (fun j => by rw [if_neg (by omega)]) sk1) rfl rfl rfl rfl
    · refine go_iconst (v := 0) dRef_takeExtra_15 (by decide) ?_
      refine go_iret dRef_takeExtra_16 rfl rfl ?_ (Nat.le_of_ble_eq_true rfl) (Nat.le_of_ble_eq_true rfl)
      exact tk_no (fun q => absurd ((nI_inj (b := 6) (by omega) (by omega)).mp c2) (by have := q.2; omega)) hR hs hb hG.1
set_option maxHeartbeats 4000000 in
theorem l_Ref_takesT {E : pmEv} {h0 h : pmH} {z : Option Nat} {m : Nat} {g : Nat → Int32} {A : Nat → Nat → Int32} {o : Bool × aPic} {w p : aRow} {S : aRs} {a l : Nat} {x : Int32} {t : Nat} {ok : Prop} [Decidable ok] {S2 : aRs} (ht : t < 3) (hxt : tgN x = nI t) (h8 : ¬ S.2.2 8 = 0) (e : ok ↔ tgK p a l t) (eS : S2 = ((S.1.1, tgS S.1.2 t (tgV p a t)), S.2)) (hR : RfA h m g A) (hb : RB g A o w p) (hG : RG g A S a) (hp : p.2 ≤ 2000) (hB : AllB p) (hl : l ≤ 255) (hf : a + 12 + l ≤ p.2) : Go E (mRef_takes, h0, 0, 0) 90 [some (.ref m), some (.int x), some (.int (nI (a + 8))), some (.int (nI l))] [] (h, z, false) 0 0 (RetX (some (.int (bI ok))) (TkP m h o w p ok S2 (a + 12 + l)) z) := by
  refine go_iload_n dRef_takes_90 rfl ?_
  refine go_statP dRef_takes_91 ok_mRef_tagOf st_mRef_tagOf qm_Ref_215 r_tagOf ?_ (hnp := np_mRef_tagOf)
  refine go_top (y := nI t) (by exact hxt) ?_
  refine go_iconst (v := -1) dRef_takes_94 (by decide) ?_
  refine go_icmp_ne (tgt := 108) dRef_takes_95 (fun c1 => ?_) (fun c1 => ?_)
  · refine go_aload_n dRef_takes_108 rfl ?_
    refine go_iload_n dRef_takes_109 rfl ?_
    refine go_statP dRef_takes_110 ok_mRef_tagOf st_mRef_tagOf qm_Ref_215 r_tagOf ?_ (hnp := np_mRef_tagOf)
    refine go_top (y := nI t) (by exact hxt) ?_
    refine go_iload_n dRef_takes_113 rfl ?_
    refine go_iload_n dRef_takes_114 rfl ?_
    refine go_virtX dRef_takes_115 ok_mRef_takeTag im_mRef_takeTag se_mRef_takeTag qm_Ref_268 hR.1 (r_takeTag (S := S) ht h8 hR hb hG hp hB hl hf) (fun hx2 d2 q2 => ?_) (hnp := np_mRef_takeTag)
    refine go_iret dRef_takes_118 rfl bI_n ?_ (Nat.le_of_ble_eq_true rfl) (Nat.le_of_ble_eq_true rfl)
    exact tk_cv e eS q2
  · exact absurd c1 (nI_nm (by omega))
set_option maxHeartbeats 4000000 in
theorem l_Ref_takesE {E : pmEv} {h0 h : pmH} {z : Option Nat} {m : Nat} {g : Nat → Int32} {A : Nat → Nat → Int32} {o : Bool × aPic} {w p : aRow} {S : aRs} {a l : Nat} {x : Int32} {ok : Prop} [Decidable ok] {S2 : aRs} (hxt : tgN x = -1) (h6 : S.2.2 6 = x) (hxx : exOk x) (h8 : ¬ S.2.2 8 = 0) (e : ok ↔ exK l S.1.2) (eS : S2 = exS p a l S) (hR : RfA h m g A) (hb : RB g A o w p) (hG : RG g A S a) (hp : p.2 ≤ 2000) (hB : AllB p) (hl : l ≤ 255) (hf : a + 12 + l ≤ p.2) : Go E (mRef_takes, h0, 0, 0) 90 [some (.ref m), some (.int x), some (.int (nI (a + 8))), some (.int (nI l))] [] (h, z, false) 0 0 (RetX (some (.int (bI ok))) (TkP m h o w p ok S2 (a + 12 + l)) z) := by
  refine go_iload_n dRef_takes_90 rfl ?_
  refine go_statP dRef_takes_91 ok_mRef_tagOf st_mRef_tagOf qm_Ref_215 r_tagOf ?_ (hnp := np_mRef_tagOf)
  refine go_top (y := -1) (by exact hxt) ?_
  refine go_iconst (v := -1) dRef_takes_94 (by decide) ?_
  refine go_icmp_ne (tgt := 108) dRef_takes_95 (fun c1 => ?_) (fun c1 => ?_)
  · exact absurd rfl c1
  · refine go_aload_n dRef_takes_98 rfl ?_
    refine go_iload_n dRef_takes_99 rfl ?_
    refine go_iload_n dRef_takes_100 rfl ?_
    refine go_iload_n dRef_takes_101 rfl ?_
    refine go_virtX dRef_takes_102 ok_mRef_takeExtra im_mRef_takeExtra se_mRef_takeExtra qm_Ref_264 hR.1 (r_takeExtra (S := S) h8 h6 hxx hR hb hG hp hB hl hf) (fun hx2 d2 q2 => ?_) (hnp := np_mRef_takeExtra)
    refine go_goto (tgt := 118) dRef_takes_105 ?_
    refine go_iret dRef_takes_118 rfl bI_n ?_ (Nat.le_of_ble_eq_true rfl) (Nat.le_of_ble_eq_true rfl)
    exact tk_cv e eS q2
set_option maxHeartbeats 4000000 in
theorem r_takes {E : pmEv} {h : pmH} {z : Option Nat} {m : Nat} {g : Nat → Int32} {A : Nat → Nat → Int32} {o : Bool × aPic} {w p : aRow} {S : aRs} {a l : Nat} {x : Int32} (hO : ¬ ordW S.2.2 S.1.2) (h5 : S.2.2 5 = nI l) (h6 : S.2.2 6 = x) (hU : ¬ unkW x) (hx : letsOk x) (hR : RfA h m g A) (hb : RB g A o w p) (hG : RG g A S a) (hp : p.2 ≤ 2000) (hB : AllB p) (hl : l ≤ 255) (hf : a + 12 + l ≤ p.2) : Call E mRef_takes [.ref m, .int x, .int (nI (a + 8)), .int (nI l)] h z 0 0 (RetX (some (.int (bI (tkOk p a l x S.1.2)))) (TkP m h o w p (tkOk p a l x S.1.2) (tkS p a l x S) (a + 12 + l)) z) := by
  have hs : Sm h h m 17 := Sm.refl _ _ _
  refine call_of (L := [some (.ref m), some (.int x), some (.int (nI (a + 8))), some (.int (nI l))]) ok_mRef_takes (Nat.le_of_ble_eq_true rfl) ?_
  refine go_iload_n dRef_takes_0 rfl ?_
  refine go_by (1229209940) (fun s1 => ?_) (fun s1 => ?_)
  · refine go_lookup (tgt := 73) (off := 72) dRef_takes_1 (by decide) (by decide) ?_
    refine go_aload_n dRef_takes_73 rfl ?_
    refine go_iload_n dRef_takes_74 rfl ?_
    refine go_iload_n dRef_takes_75 rfl ?_
    refine go_virtX dRef_takes_76 ok_mRef_takeRows im_mRef_takeRows se_mRef_takeRows qm_Ref_261 hR.1 (r_takeRows (S := S) (ord_h8 hO h6 (fun q => absurd (s1.symm.trans q) (by decide))) h5 hR hb hG hp hB hl hf) (fun hx2 d2 q2 => ?_) (hnp := np_mRef_takeRows)
    refine go_iret dRef_takes_79 rfl bI_n ?_ (Nat.le_of_ble_eq_true rfl) (Nat.le_of_ble_eq_true rfl)
    exact tk_cv (by rw [tkOk, if_pos s1]) (by rw [tkS, if_pos s1]) q2
  refine go_by (1229278788) (fun s2 => ?_) (fun s2 => ?_)
  · refine go_lookup (tgt := 80) (off := 79) dRef_takes_1 (by decide) (by decide) ?_
    refine go_iload_n dRef_takes_80 rfl ?_
    refine go_if_ne (tgt := 88) dRef_takes_81 (fun c3 => ?_) (fun c3 => ?_)
    · refine go_iconst (v := 0) dRef_takes_88 (by decide) ?_
      refine go_iret dRef_takes_89 rfl rfl ?_ (Nat.le_of_ble_eq_true rfl) (Nat.le_of_ble_eq_true rfl)
      exact tk_no (by rw [tkOk, if_neg s1, if_pos s2]; exact fun q => c3 (by rw [q]; rfl)) hR hs hb hG.1
    · refine go_iconst (v := 1) dRef_takes_84 (by decide) ?_
      refine go_goto (tgt := 89) dRef_takes_85 ?_
      refine go_iret dRef_takes_89 rfl rfl ?_ (Nat.le_of_ble_eq_true rfl) (Nat.le_of_ble_eq_true rfl)
      exact tk_yes (by rw [tkOk, if_neg s1, if_pos s2]; exact (nI_inj (b := 0) (by omega) (by omega)).mp c3) hR hs hb (by rw [tkS, if_neg s1, if_pos s2]; exact hG.le (by omega))
  refine go_by (1229472850) (fun s3 => ?_) (fun s3 => ?_)
  · refine go_lookup (tgt := 52) (off := 51) dRef_takes_1 (by decide) (by decide) ?_
    refine go_aload_n dRef_takes_52 rfl ?_
    refine go_iload_n dRef_takes_53 rfl ?_
    refine go_iload_n dRef_takes_54 rfl ?_
    refine go_virtX dRef_takes_55 ok_mRef_takeHead im_mRef_takeHead se_mRef_takeHead qm_Ref_251 hR.1 (r_takeHead (S := S) (ord_h0 hO h6 s3) hR hb hG hp hB hl hf) (fun hx4 d4 q4 => ?_) (hnp := np_mRef_takeHead)
    refine go_iret dRef_takes_58 rfl bI_n ?_ (Nat.le_of_ble_eq_true rfl) (Nat.le_of_ble_eq_true rfl)
    exact tk_cv (by rw [tkOk, if_neg s1, if_neg s2, if_pos s3]) (by rw [tkS, if_neg s1, if_neg s2, if_pos s3]) q4
  refine go_by (1347179589) (fun s4 => ?_) (fun s4 => ?_)
  · refine go_lookup (tgt := 59) (off := 58) dRef_takes_1 (by decide) (by decide) ?_
    refine go_aload_n dRef_takes_59 rfl ?_
    refine go_iload_n dRef_takes_60 rfl ?_
    refine go_iload_n dRef_takes_61 rfl ?_
    refine go_virtX dRef_takes_62 ok_mRef_takePalette im_mRef_takePalette se_mRef_takePalette qm_Ref_255 hR.1 (r_takePalette (S := S) (ord_h8 hO h6 s3) (ord_pal2 hG.2.2.2.2.2.2.1 hO (h6.trans s4)) hR hb hG hp hB hl hf) (fun hx5 d5 q5 => ?_) (hnp := np_mRef_takePalette)
    refine go_iret dRef_takes_65 rfl bI_n ?_ (Nat.le_of_ble_eq_true rfl) (Nat.le_of_ble_eq_true rfl)
    exact tk_cv (by rw [tkOk, if_neg s1, if_neg s2, if_neg s3, if_pos s4]) (by rw [tkS, if_neg s1, if_neg s2, if_neg s3, if_pos s4]) q5
  refine go_by (1951551059) (fun s5 => ?_) (fun s5 => ?_)
  · refine go_lookup (tgt := 66) (off := 65) dRef_takes_1 (by decide) (by decide) ?_
    refine go_aload_n dRef_takes_66 rfl ?_
    refine go_iload_n dRef_takes_67 rfl ?_
    refine go_iload_n dRef_takes_68 rfl ?_
    refine go_virtX dRef_takes_69 ok_mRef_takeAlphas im_mRef_takeAlphas se_mRef_takeAlphas qm_Ref_258 hR.1 (r_takeAlphas (S := S) (ord_h8 hO h6 s3) hR hb hG hp hB hl hf) (fun hx6 d6 q6 => ?_) (hnp := np_mRef_takeAlphas)
    refine go_iret dRef_takes_72 rfl bI_n ?_ (Nat.le_of_ble_eq_true rfl) (Nat.le_of_ble_eq_true rfl)
    exact tk_cv (by rw [tkOk, if_neg s1, if_neg s2, if_neg s3, if_neg s4, if_neg (fun q => absurd (s5.symm.trans q) (by decide)), if_neg (fun q => absurd (s5.symm.trans q) (by decide)), if_neg (fun q => absurd (s5.symm.trans q) (by decide)), if_pos s5]) (by rw [tkS, if_neg s1, if_neg s2, if_neg s3, if_neg s4, if_neg (fun q => absurd (s5.symm.trans q) (by decide)), if_neg (fun q => absurd (s5.symm.trans q) (by decide)), if_neg (fun q => absurd (s5.symm.trans q) (by decide)), if_pos s5]) q6
  refine go_lookup (tgt := 90) (off := 89) dRef_takes_1 (by decide) (by rw [lv_osw s1 (by decide)]; rw [lv_osw s2 (by decide)]; rw [lv_osw s3 (by decide)]; rw [lv_osw s4 (by decide)]; rw [lv_osw s5 (by decide)]; rfl) ?_
  have h8 := ord_h8 hO h6 s3
  by_cases t0 : x = 1732332865
  · exact l_Ref_takesT (S := S) (t := 0) (by omega) (by rw [t0]; rfl) h8 (by rw [tkOk, if_neg s1, if_neg s2, if_neg s3, if_neg s4, if_pos t0]; exact ⟨fun q => ⟨q.1, q.2, Or.inl (by omega)⟩, fun q => ⟨q.1, q.2.1⟩⟩) (by rw [tkS, if_neg s1, if_neg s2, if_neg s3, if_neg s4, if_pos t0]; rfl) hR hb hG hp hB hl hf
  by_cases t1 : x = 1934772034
  · exact l_Ref_takesT (S := S) (t := 1) (by omega) (by rw [t1]; rfl) h8 (by rw [tkOk, if_neg s1, if_neg s2, if_neg s3, if_neg s4, if_neg t0, if_neg (fun q => absurd (t1.symm.trans q) (by decide)), if_pos t1]; exact ⟨fun q => ⟨q.1, q.2, Or.inl (by omega)⟩, fun q => ⟨q.1, q.2.1⟩⟩) (by rw [tkS, if_neg s1, if_neg s2, if_neg s3, if_neg s4, if_neg t0, if_neg (fun q => absurd (t1.symm.trans q) (by decide)), if_pos t1]; rfl) hR hb hG hp hB hl hf
  by_cases t2 : x = 1883789683
  · exact l_Ref_takesT (S := S) (t := 2) (by omega) (by rw [t2]; rfl) h8 (by rw [tkOk, if_neg s1, if_neg s2, if_neg s3, if_neg s4, if_neg t0, if_pos t2]; exact ⟨fun q => ⟨q.1, q.2.2.2, Or.inr ⟨q.2.1.symm, q.2.2.1⟩⟩, fun q => ⟨q.1, (q.2.2.resolve_left (by omega)).1.symm, (q.2.2.resolve_left (by omega)).2, q.2.1⟩⟩) (by rw [tkS, if_neg s1, if_neg s2, if_neg s3, if_neg s4, if_neg t0, if_pos t2]; rfl) hR hb hG hp hB hl hf
  exact l_Ref_takesE (S := S) (by rw [tgN, if_neg t0, if_neg t1, if_neg t2]) h6 ⟨hx, fun gr => hU ⟨gr, s3, s4, s1, s2⟩, t0, t1, t2, s5⟩ h8 (by rw [tkOk, if_neg s1, if_neg s2, if_neg s3, if_neg s4, if_neg t0, if_neg t2, if_neg t1, if_neg s5]) (by rw [tkS, if_neg s1, if_neg s2, if_neg s3, if_neg s4, if_neg t0, if_neg t2, if_neg t1, if_neg s5]) hR hb hG hp hB hl hf
