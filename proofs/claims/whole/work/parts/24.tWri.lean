/-! ===== Writing (by wip/whole/gen_tWri.py) ===== -/
/-- the file, the rows, where the open chunk begins -/
abbrev aWr : Type := aRow × aRow × Nat
def WrA (h : pmH) (w : Nat) (ω : aWr) : Prop := h w = some (pmO 6 [.ref (w + 1), .ref (w + 3), .int (nI ω.2.2)]) ∧ BA h (w + 1) 1115 ω.1 ∧ BA h (w + 3) 588 ω.2.1
theorem WrA.out {h h' : pmH} {w : Nat} {ω : aWr} {q : aRow} (hW : WrA h w ω) (hq : BA h' (w + 1) 1115 q) (hs : Sm h h' (w + 1) 2) : WrA h' w (q, ω.2) := ⟨(hs _ (by omega)).trans hW.1, hq, hW.2.2.sm hs (by omega)⟩
theorem WrA.row {h h' : pmH} {w : Nat} {ω : aWr} {q : aRow} (hW : WrA h w ω) (hq : BA h' (w + 3) 588 q) (hs : Sm h h' (w + 3) 2) : WrA h' w (ω.1, q, ω.2.2) := ⟨(hs _ (by omega)).trans hW.1, hW.2.1.sm hs (by omega), hq⟩
theorem WrA.sm {h h' : pmH} {w a n : Nat} {ω : aWr} (hW : WrA h w ω) (hs : Sm h h' a n) (hd : w + 5 ≤ a ∨ a + n ≤ w) : WrA h' w ω := ⟨(hs _ (by omega)).trans hW.1, hW.2.1.sm hs (by omega), hW.2.2.sm hs (by omega)⟩
def Rl (p p' : aRow) : Prop := p.2 = p'.2 ∧ Ag p.2 p.1 p'.1
theorem BA.ag {h : pmH} {b N : Nat} {p p' : aRow} (hB : BA h b N p) (ha : Rl p p') : BA h b N p' := by
  obtain ⟨h1, ⟨f, h2, h3⟩, h4⟩ := hB
  rw [ha.1] at h1 h3
  exact ⟨h1, ⟨f, h2, h3.trans (ha.2.mono (by rw [ha.1]; exact Nat.min_le_right _ _))⟩, h4⟩
theorem Rl.add {p p' : aRow} (h : Rl p p') (x : Int32) : Rl (wA p x) (wA p' x) := ⟨congrArg (· + 1) h.1, by
  have := h.2.push x
  unfold wA
  rw [← h.1]
  exact this⟩
theorem Rl.stp {q q' : pkS} (h : Rl q.1 q'.1 ∧ q.2 = q'.2) (b : Nat) (v : Int32) : Rl (pkStep b v q).1 (pkStep b v q').1 ∧ (pkStep b v q).2 = (pkStep b v q').2 := by
  obtain ⟨h1, h2⟩ := h
  unfold pkStep
  rw [h2]
  by_cases e : q'.2.2 + nI b = 8
  · rw [if_pos e, if_pos e]
    exact ⟨h1.add _, rfl⟩
  · rw [if_neg e, if_neg e]
    exact ⟨h1, rfl⟩
theorem Rl.in_ {π : aPic} {y x : Nat} : ∀ (n u : Nat) (q q' : pkS), Rl q.1 q'.1 ∧ q.2 = q'.2 → Rl (pkIn π y x n u q).1 (pkIn π y x n u q').1 ∧ (pkIn π y x n u q).2 = (pkIn π y x n u q').2 := by
  intro n
  induction n with
  | zero => intro u q q' h; exact h
  | succ n ih => intro u q q' h; exact ih _ _ _ (Rl.stp h _ _)
theorem Rl.out {π : aPic} {y : Nat} : ∀ (n x : Nat) (q q' : pkS), Rl q.1 q'.1 ∧ q.2 = q'.2 → Rl (pkOut π y n x q).1 (pkOut π y n x q').1 ∧ (pkOut π y n x q).2 = (pkOut π y n x q').2 := by
  intro n
  induction n with
  | zero => intro u q q' h; exact h
  | succ n ih => intro u q q' h; exact ih _ _ _ (Rl.in_ _ _ _ _ h)
theorem Rl.end_ {q q' : pkS} (h : Rl q.1 q'.1 ∧ q.2 = q'.2) : Rl (pkEnd q) (pkEnd q') := by
  obtain ⟨h1, h2⟩ := h
  unfold pkEnd
  rw [h2]
  by_cases e : 0 < q'.2.2
  · rw [if_pos e, if_pos e]
    exact h1.add _
  · rw [if_neg e, if_neg e]
    exact h1
theorem Rl.all {π : aPic} : ∀ (n y : Nat) (p p' : aRow), Rl p p' → Rl (pkAll π n y p) (pkAll π n y p') := by
  intro n
  induction n with
  | zero => intro y p p' h; exact h
  | succ n ih => intro y p p' h; exact ih _ _ _ (Rl.end_ (Rl.out _ _ _ _ ⟨h.add 0, rfl⟩))
def pkC (π : aPic) : aRow := pkAll π π.1.2.1 0 (fun _ => 0, 0)
theorem pkC_ag (π : aPic) (f : Nat → Int32) : Rl (pkAll π π.1.2.1 0 (f, 0)) (pkC π) := Rl.all _ _ _ _ ⟨rfl, fun i hi => absurd hi (Nat.not_lt_zero _)⟩
def opW (p : aRow) (x : Int32) : aRow := wN (wN p 0) x
def clL (p : aRow) (a : Nat) : Nat := p.2 - a - 8
def clP (p : aRow) (a : Nat) : aRow := wS4 p a (nI (clL p a))
def clW (p : aRow) (a : Nat) : aRow := wN (clP p a) (wSum (clP p a) (a + 4) (clL p a + 4))
def hdW (d : Nat × Nat × Nat × Nat) (p : aRow) : aRow := clW (wA (wA (wA (wA (wA (wN (wN (opW p 1229472850) (nI d.1)) (nI d.2.1)) (nI d.2.2.1)) (nI d.2.2.2)) 0) 0) 0) p.2
def tgW0 (τ : Nat → Int32) (p : aRow) : aRow := if τ 0 = -1 then p else clW (wN (opW p 1732332865) (τ 0)) p.2
def tgW1 (τ : Nat → Int32) (p : aRow) : aRow := if τ 1 = -1 then p else clW (wA (opW p 1934772034) (τ 1)) p.2
def tgW2 (τ : Nat → Int32) (p : aRow) : aRow := if τ 2 = -1 then p else clW (wA (wN (wN (opW p 1883789683) (τ 2)) (τ 2)) 1) p.2
def tgW (τ : Nat → Int32) (p : aRow) : aRow := tgW2 τ (tgW1 τ (tgW0 τ p))
def wPl (f : Nat → Int32) : Nat → Nat → aRow → aRow
  | 0, _, p => p
  | n + 1, k, p => wPl f n (k + 1) (wAs (fun i => f (4 * k + i)) 0 3 p)
def plW (c : aRow) (p : aRow) : aRow := clW (wPl c.1 c.2 0 (opW p 1347179589)) p.2
def alW (c : aRow) (p : aRow) : aRow := if alN c.1 c.2 = 0 then p else clW (wAs (fun i => c.1 (4 * i + 3)) 0 (alN c.1 c.2) (opW p 1951551059)) p.2
def wRs (q : aRow) : Nat → Nat → aRow → aRow
  | 0, _, p => p
  | n + 1, a, p => if a < q.2 then wRs q n (a + 60) (clW (wAs q.1 a (min q.2 (a + 60) - a) (opW p 1229209940)) p.2) else p
def wXs (e : aExt) : Nat → Nat → aRow → aRow
  | 0, _, p => p
  | n + 1, k, p => wXs e n (k + 1) (clW (wAs (fun i => e.2.2.1 (40 * k + i)) 0 (e.2.1 k) (opW p (e.1 k))) p.2)
def enW (π : aPic) (p : aRow) : aRow := clW (opW (wXs π.2.2.2.2 π.2.2.2.2.2.2.2 0 (wRs (pkC π) 10 0 p)) 1229278788) (wXs π.2.2.2.2 π.2.2.2.2.2.2.2 0 (wRs (pkC π) 10 0 p)).2
def w2 (π : aPic) (p : aRow) : aRow := hdW π.1 (wAs bM 0 8 (p.1, 0))
def w3 (π : aPic) (p : aRow) : aRow := tgW π.2.2.2.1 (w2 π p)
def w4 (π : aPic) (p : aRow) : aRow := if π.1.2.2.2 = 3 then alW π.2.2.1 (plW π.2.2.1 (w3 π p)) else w3 π p
def wrAll (π : aPic) (p : aRow) : aRow := enW π (w4 π p)
theorem mn_n {a b : Nat} (ha : a < 2 ^ 31) (hb : b < 2 ^ 31) : mn (nI a) (nI b) = nI (min a b) := by
  unfold mn
  by_cases e : b < a
  · rw [if_pos (nI_lt e ha), Nat.min_eq_right (by omega)]
  · rw [if_neg (fun q => e ((nI_ltI hb ha).mp q)), Nat.min_eq_left (by omega)]
theorem wAs_2 (g : Nat → Int32) : ∀ (n i : Nat) (p : aRow), (wAs g i n p).2 = p.2 + n := by
  intro n
  induction n with
  | zero => intro i p; rfl
  | succ n ih => intro i p; rw [wAs, ih]; show p.2 + 1 + n = _; omega
theorem alN_le (f : Nat → Int32) : ∀ n, alN f n ≤ n := by
  intro n
  induction n with
  | zero => exact Nat.le_refl _
  | succ n ih =>
    rw [alN]
    by_cases e : f (4 * n + 3) = 255
    · rw [if_pos e]; omega
    · rw [if_neg e]; exact Nat.le_refl _
theorem tgW_2 (τ : Nat → Int32) (p : aRow) : p.2 ≤ (tgW τ p).2 ∧ (tgW τ p).2 ≤ p.2 + 50 := by
  have e0 : p.2 ≤ (tgW0 τ p).2 ∧ (tgW0 τ p).2 ≤ p.2 + 16 := by
    unfold tgW0
    by_cases e : τ 0 = -1
    · rw [if_pos e]; omega
    · rw [if_neg e]; show p.2 ≤ p.2 + 16 ∧ p.2 + 16 ≤ _; omega
  have e1 : (tgW0 τ p).2 ≤ (tgW1 τ (tgW0 τ p)).2 ∧ (tgW1 τ (tgW0 τ p)).2 ≤ (tgW0 τ p).2 + 13 := by
    unfold tgW1
    by_cases e : τ 1 = -1
    · rw [if_pos e]; omega
    · rw [if_neg e]; show (tgW0 τ p).2 ≤ (tgW0 τ p).2 + 13 ∧ (tgW0 τ p).2 + 13 ≤ _; omega
  have e2 : (tgW1 τ (tgW0 τ p)).2 ≤ (tgW τ p).2 ∧ (tgW τ p).2 ≤ (tgW1 τ (tgW0 τ p)).2 + 21 := by
    unfold tgW tgW2
    by_cases e : τ 2 = -1
    · rw [if_pos e]; omega
    · rw [if_neg e]; show (tgW1 τ (tgW0 τ p)).2 ≤ (tgW1 τ (tgW0 τ p)).2 + 21 ∧ (tgW1 τ (tgW0 τ p)).2 + 21 ≤ _; omega
  omega
theorem wPl_2 (f : Nat → Int32) : ∀ (n k : Nat) (p : aRow), (wPl f n k p).2 = p.2 + 3 * n := by
  intro n
  induction n with
  | zero => intro i p; rfl
  | succ n ih => intro i p; rw [wPl, ih]; show p.2 + 3 + 3 * n = _; omega
theorem plW_2 (c p : aRow) : (plW c p).2 = p.2 + 3 * c.2 + 12 := by
  show (wPl c.1 c.2 0 (opW p 1347179589)).2 + 4 = _
  rw [wPl_2]
  show p.2 + 8 + 3 * c.2 + 4 = _
  omega
theorem alW_2 (c p : aRow) : (alW c p).2 ≤ p.2 + c.2 + 12 := by
  have h := alN_le c.1 c.2
  unfold alW
  by_cases e : alN c.1 c.2 = 0
  · rw [if_pos e]; omega
  · rw [if_neg e]
    show (wAs _ 0 _ (opW p 1951551059)).2 + 4 ≤ _
    rw [wAs_2]
    show p.2 + 8 + alN c.1 c.2 + 4 ≤ _
    omega
theorem wRs_2 (q : aRow) : ∀ (n a : Nat) (p : aRow), (wRs q n a p).2 ≤ p.2 + (q.2 - a) + 12 * n := by
  intro n
  induction n with
  | zero => intro a p; show p.2 ≤ _; omega
  | succ n ih =>
    intro a p
    rw [wRs]
    by_cases e : a < q.2
    · rw [if_pos e]
      have h := ih (a + 60) (clW (wAs q.1 a (min q.2 (a + 60) - a) (opW p 1229209940)) p.2)
      have e1 : (clW (wAs q.1 a (min q.2 (a + 60) - a) (opW p 1229209940)) p.2).2 = p.2 + 8 + (min q.2 (a + 60) - a) + 4 := by
        show (wAs q.1 a (min q.2 (a + 60) - a) (opW p 1229209940)).2 + 4 = _
        rw [wAs_2]
        rfl
      omega
    · rw [if_neg e]; omega
theorem ex_sz {h : pmH} {x : Nat} {e : aExt} (hX : ExA h x e) : ∀ k, k < e.2.2.2 → e.2.1 k ≤ 40 := by
  obtain ⟨_, ⟨_, _, _, _, _, _, hE⟩, _⟩ := hX
  exact fun k hk => (hE.2.1 k hk).2
theorem wXs_2 {e : aExt} (hz : ∀ k, k < e.2.2.2 → e.2.1 k ≤ 40) : ∀ (n k : Nat) (p : aRow), k + n = e.2.2.2 → (wXs e n k p).2 ≤ p.2 + 52 * n := by
  intro n
  induction n with
  | zero => intro a p _; show p.2 ≤ _; omega
  | succ n ih =>
    intro k p hk
    rw [wXs]
    have h := ih (k + 1) (clW (wAs (fun i => e.2.2.1 (40 * k + i)) 0 (e.2.1 k) (opW p (e.1 k))) p.2) (by omega)
    have e1 : (clW (wAs (fun i => e.2.2.1 (40 * k + i)) 0 (e.2.1 k) (opW p (e.1 k))) p.2).2 = p.2 + 8 + e.2.1 k + 4 := by
      show (wAs (fun i => e.2.2.1 (40 * k + i)) 0 (e.2.1 k) (opW p (e.1 k))).2 + 4 = _
      rw [wAs_2]
      rfl
    have h3 := hz k (by omega)
    omega
set_option maxHeartbeats 4000000 in
theorem a_Writing_open {E : pmEv} {h : pmH} {z : Option Nat} {w : Nat} {ω : aWr} {x : Int32} (hn0 : ω.1.2 ≤ 1115) (hW : WrA h w ω) : Call E mWriting_open [.ref w, .int x] h z 0 0 (RetX none (fun h' => WrA h' w (opW ω.1 x, ω.2.1, ω.1.2) ∧ Sm h h' w 5) z) := by
  refine call_of (L := [some (.ref w), some (.int x)]) ok_mWriting_open (Nat.le_of_ble_eq_true rfl) ?_
  refine go_aload_n dWriting_open_0 rfl ?_
  refine go_aload_n dWriting_open_1 rfl ?_
  refine go_getf dWriting_open_2 qf_Writing_14 hW.1 rfl ?_
  refine go_getf dWriting_open_5 qf_Writing_80 hW.2.1.1 rfl ?_
  rw [Nat.min_eq_right hn0]
  refine go_putf dWriting_open_8 qf_Writing_83 pw_6_2 hW.1 rfl rfl ?_
  refine go_nm (fun hn en => ?_)
  have gs : Sm h hn w 1 := by rw [en]; exact (Sm.put' (Sm.refl _ _ _) _ (by omega) (by omega))
  have g1 := congrFun en w
  have hW1 : WrA hn w (ω.1, ω.2.1, ω.1.2) := ⟨g1.trans (pmU_s _ _ _), hW.2.1.sm gs (by omega), hW.2.2.sm gs (by omega)⟩
  refine go_aload_n dWriting_open_11 rfl ?_
  refine go_getf dWriting_open_12 qf_Writing_14 hW1.1 rfl ?_
  refine go_iconst (v := 0) dWriting_open_15 (by decide) ?_
  refine go_virtX dWriting_open_16 ok_mBytes_addNumber im_mBytes_addNumber se_mBytes_addNumber qm_Writing_86 hW1.2.1.1 (a_Bytes_addNumber hW1.2.1) (fun hx1 d1 q1 => ?_) (hnp := np_mBytes_addNumber)
  have hW2 := hW1.out q1.1 q1.2
  have s2 := q1.2
  refine go_aload_n dWriting_open_19 rfl ?_
  refine go_getf dWriting_open_20 qf_Writing_14 hW2.1 rfl ?_
  refine go_iload_n dWriting_open_23 rfl ?_
  refine go_virtX dWriting_open_24 ok_mBytes_addNumber im_mBytes_addNumber se_mBytes_addNumber qm_Writing_86 hW2.2.1.1 (a_Bytes_addNumber hW2.2.1) (fun hx2 d2 q2 => ?_) (hnp := np_mBytes_addNumber)
  have hW3 := hW2.out q2.1 q2.2
  have s3 := q2.2
  refine go_vret dWriting_open_27 rfl ?_ (Nat.le_of_ble_eq_true rfl) (Nat.le_of_ble_eq_true rfl)
  exact retX ⟨hW3, ((gs.sub (by omega) (by omega)).trans (s2.sub (by omega) (by omega))).trans (s3.sub (by omega) (by omega))⟩
set_option maxHeartbeats 4000000 in
theorem a_Writing_close {E : pmEv} {h : pmH} {z : Option Nat} {w : Nat} {ω : aWr} (hS : SA E h w) (hn0 : ω.1.2 ≤ 1115) (ho : ω.2.2 + 8 ≤ ω.1.2) (hW : WrA h w ω) : Call E mWriting_close [.ref w] h z 0 0 (RetX none (fun h' => WrA h' w (clW ω.1 ω.2.2, ω.2.1, ω.2.2) ∧ Sm h h' w 5) z) := by
  refine call_of (L := [some (.ref w), none]) ok_mWriting_close (Nat.le_of_ble_eq_true rfl) ?_
  refine go_aload_n dWriting_close_0 rfl ?_
  refine go_getf dWriting_close_1 qf_Writing_14 hW.1 rfl ?_
  refine go_getf dWriting_close_4 qf_Writing_80 hW.2.1.1 rfl ?_
  rw [Nat.min_eq_right hn0]
  refine go_aload_n dWriting_close_7 rfl ?_
  refine go_getf dWriting_close_8 qf_Writing_83 hW.1 rfl ?_
  refine go_isub dWriting_close_11 ?_
  refine go_bipush (v := 8) dWriting_close_12 (by decide) ?_
  refine go_isub dWriting_close_14 ?_
  rw [pk_sub (show ω.2.2 ≤ ω.1.2 by omega), show (8 : Int32) = nI 8 from rfl, pk_sub (show 8 ≤ ω.1.2 - ω.2.2 by omega)]
  refine go_istore_n dWriting_close_15 ?_
  refine go_aload_n dWriting_close_16 rfl ?_
  refine go_getf dWriting_close_17 qf_Writing_14 hW.1 rfl ?_
  refine go_aload_n dWriting_close_20 rfl ?_
  refine go_getf dWriting_close_21 qf_Writing_83 hW.1 rfl ?_
  refine go_iload_n dWriting_close_24 rfl ?_
  refine go_virtX dWriting_close_25 ok_mBytes_setNumber im_mBytes_setNumber se_mBytes_setNumber qm_Writing_89 hW.2.1.1 (a_Bytes_setNumber (j := ω.2.2) hW.2.1 hn0 (by omega)) (fun hx1 d1 q1 => ?_) (hnp := np_mBytes_setNumber)
  have hW1 := hW.out q1.1 q1.2
  have s1 := q1.2
  refine go_aload_n dWriting_close_28 rfl ?_
  refine go_getf dWriting_close_29 qf_Writing_14 hW1.1 rfl ?_
  refine go_aload_n dWriting_close_32 rfl ?_
  refine go_getf dWriting_close_33 qf_Writing_14 hW1.1 rfl ?_
  refine go_aload_n dWriting_close_36 rfl ?_
  refine go_getf dWriting_close_37 qf_Writing_83 hW1.1 rfl ?_
  refine go_iload_n dWriting_close_40 rfl ?_
  refine go_virtP dWriting_close_41 ok_mBytes_rightSum im_mBytes_rightSum se_mBytes_rightSum qm_Writing_93 hW1.2.1.1 (a_Bytes_rightSum (p := clP ω.1 ω.2.2) (hS.sm s1 (by omega)).2.1 (a := ω.2.2) (l := clL ω.1 ω.2.2) (by unfold clL; omega) hW1.2.1 hn0) ?_ (hnp := np_mBytes_rightSum)
  refine go_virtX dWriting_close_44 ok_mBytes_addNumber im_mBytes_addNumber se_mBytes_addNumber qm_Writing_86 hW1.2.1.1 (a_Bytes_addNumber hW1.2.1) (fun hx2 d2 q2 => ?_) (hnp := np_mBytes_addNumber)
  have hW2 := hW1.out q2.1 q2.2
  have s2 := q2.2
  refine go_vret dWriting_close_47 rfl ?_ (Nat.le_of_ble_eq_true rfl) (Nat.le_of_ble_eq_true rfl)
  exact retX ⟨hW2, (s1.sub (by omega) (by omega)).trans (s2.sub (by omega) (by omega))⟩
set_option maxHeartbeats 4000000 in
theorem a_Writing_addHead {E : pmEv} {h : pmH} {z : Option Nat} {w p : Nat} {t : Bool} {π : aPic} {ω : aWr} (hS : SA E h w) (hd : p + 10 ≤ w ∨ w + 5 ≤ p) (hn : ω.1.2 + 25 ≤ 1115) (hP : PiA h p t π) (hW : WrA h w ω) : Call E mWriting_addHead [.ref w, .ref p] h z 0 0 (RetX none (fun h' => (∃ o, WrA h' w (hdW π.1 ω.1, ω.2.1, o)) ∧ Sm h h' w 5) z) := by
  have hs : Sm h h w 5 := Sm.refl _ _ _
  refine call_of (L := [some (.ref w), some (.ref p)]) ok_mWriting_addHead (Nat.le_of_ble_eq_true rfl) ?_
  refine go_aload_n dWriting_addHead_0 rfl ?_
  refine go_ldc dWriting_addHead_1 qc_Writing_97 ?_
  refine go_virtX dWriting_addHead_3 ok_mWriting_open im_mWriting_open se_mWriting_open qm_Writing_74 hW.1 (a_Writing_open (show ω.1.2 + 0 ≤ 1115 by omega) hW) (fun hx1 d1 q1 => ?_) (hnp := np_mWriting_open)
  have hW1 := q1.1
  have s1 := hs.trans q1.2
  refine go_aload_n dWriting_addHead_6 rfl ?_
  refine go_getf dWriting_addHead_7 qf_Writing_14 hW1.1 rfl ?_
  refine go_aload_n dWriting_addHead_10 rfl ?_
  refine go_getf dWriting_addHead_11 qf_Writing_98 (hP.sm s1 (by omega)).1 rfl ?_
  refine go_virtX dWriting_addHead_14 ok_mBytes_addNumber im_mBytes_addNumber se_mBytes_addNumber qm_Writing_86 hW1.2.1.1 (a_Bytes_addNumber hW1.2.1) (fun hx2 d2 q2 => ?_) (hnp := np_mBytes_addNumber)
  have hW2 := hW1.out q2.1 q2.2
  have s2 := s1.trans (q2.2.sub (by omega) (by omega))
  refine go_aload_n dWriting_addHead_17 rfl ?_
  refine go_getf dWriting_addHead_18 qf_Writing_14 hW2.1 rfl ?_
  refine go_aload_n dWriting_addHead_21 rfl ?_
  refine go_getf dWriting_addHead_22 qf_Writing_101 (hP.sm s2 (by omega)).1 rfl ?_
  refine go_virtX dWriting_addHead_25 ok_mBytes_addNumber im_mBytes_addNumber se_mBytes_addNumber qm_Writing_86 hW2.2.1.1 (a_Bytes_addNumber hW2.2.1) (fun hx3 d3 q3 => ?_) (hnp := np_mBytes_addNumber)
  have hW3 := hW2.out q3.1 q3.2
  have s3 := s2.trans (q3.2.sub (by omega) (by omega))
  refine go_aload_n dWriting_addHead_28 rfl ?_
  refine go_getf dWriting_addHead_29 qf_Writing_14 hW3.1 rfl ?_
  refine go_aload_n dWriting_addHead_32 rfl ?_
  refine go_getf dWriting_addHead_33 qf_Writing_104 (hP.sm s3 (by omega)).1 rfl ?_
  refine go_virtX dWriting_addHead_36 ok_mBytes_add im_mBytes_add se_mBytes_add qm_Writing_107 hW3.2.1.1 (a_Bytes_add hW3.2.1) (fun hx4 d4 q4 => ?_) (hnp := np_mBytes_add)
  have hW4 := hW3.out q4.1 q4.2
  have s4 := s3.trans (q4.2.sub (by omega) (by omega))
  refine go_aload_n dWriting_addHead_39 rfl ?_
  refine go_getf dWriting_addHead_40 qf_Writing_14 hW4.1 rfl ?_
  refine go_aload_n dWriting_addHead_43 rfl ?_
  refine go_getf dWriting_addHead_44 qf_Writing_43 (hP.sm s4 (by omega)).1 rfl ?_
  refine go_virtX dWriting_addHead_47 ok_mBytes_add im_mBytes_add se_mBytes_add qm_Writing_107 hW4.2.1.1 (a_Bytes_add hW4.2.1) (fun hx5 d5 q5 => ?_) (hnp := np_mBytes_add)
  have hW5 := hW4.out q5.1 q5.2
  have s5 := s4.trans (q5.2.sub (by omega) (by omega))
  refine go_aload_n dWriting_addHead_50 rfl ?_
  refine go_getf dWriting_addHead_51 qf_Writing_14 hW5.1 rfl ?_
  refine go_iconst (v := 0) dWriting_addHead_54 (by decide) ?_
  refine go_virtX dWriting_addHead_55 ok_mBytes_add im_mBytes_add se_mBytes_add qm_Writing_107 hW5.2.1.1 (a_Bytes_add hW5.2.1) (fun hx6 d6 q6 => ?_) (hnp := np_mBytes_add)
  have hW6 := hW5.out q6.1 q6.2
  have s6 := s5.trans (q6.2.sub (by omega) (by omega))
  refine go_aload_n dWriting_addHead_58 rfl ?_
  refine go_getf dWriting_addHead_59 qf_Writing_14 hW6.1 rfl ?_
  refine go_iconst (v := 0) dWriting_addHead_62 (by decide) ?_
  refine go_virtX dWriting_addHead_63 ok_mBytes_add im_mBytes_add se_mBytes_add qm_Writing_107 hW6.2.1.1 (a_Bytes_add hW6.2.1) (fun hx7 d7 q7 => ?_) (hnp := np_mBytes_add)
  have hW7 := hW6.out q7.1 q7.2
  have s7 := s6.trans (q7.2.sub (by omega) (by omega))
  refine go_aload_n dWriting_addHead_66 rfl ?_
  refine go_getf dWriting_addHead_67 qf_Writing_14 hW7.1 rfl ?_
  refine go_iconst (v := 0) dWriting_addHead_70 (by decide) ?_
  refine go_virtX dWriting_addHead_71 ok_mBytes_add im_mBytes_add se_mBytes_add qm_Writing_107 hW7.2.1.1 (a_Bytes_add hW7.2.1) (fun hx8 d8 q8 => ?_) (hnp := np_mBytes_add)
  have hW8 := hW7.out q8.1 q8.2
  have s8 := s7.trans (q8.2.sub (by omega) (by omega))
  refine go_aload_n dWriting_addHead_74 rfl ?_
  refine go_virtX dWriting_addHead_75 ok_mWriting_close im_mWriting_close se_mWriting_close qm_Writing_77 hW8.1 (a_Writing_close (hS.sm s8 (by omega)) (show ω.1.2 + 21 ≤ 1115 by omega) (show ω.1.2 + 0 + 8 ≤ ω.1.2 + 21 by omega) hW8) (fun hx9 d9 q9 => ?_) (hnp := np_mWriting_close)
  have hW9 := q9.1
  have s9 := s8.trans q9.2
  refine go_vret dWriting_addHead_78 rfl ?_ (Nat.le_of_ble_eq_true rfl) (Nat.le_of_ble_eq_true rfl)
  exact retX ⟨⟨_, hW9⟩, s9⟩
set_option maxHeartbeats 4000000 in
theorem l_Writing_addTags2 {E : pmEv} {h0 h : pmH} {z : Option Nat} {d : Bool} {w t : Nat} {τ : Nat → Int32} {ω : aWr} (hS : SA E h0 w) (hd : t + 2 ≤ w ∨ w + 5 ≤ t) (hT : TgA h0 t τ) {G : aRow} {R : aRow} (hn : ω.1.2 + 21 ≤ 1115) (hW : WrA h w ω) (hs : Sm h0 h w 5) (hG : G = tgW2 τ ω.1) (hR : R = ω.2.1) : Go E (mWriting_addTags, h0, 0, 0) 60 [some (.ref w), some (.ref t)] [] (h, z, d) 0 0 (RetX none (fun h' => (∃ o, WrA h' w (G, R, o)) ∧ Sm h0 h' w 5) z) := by
  refine go_aload_n dWriting_addTags_60 rfl ?_
  refine go_iconst (v := 2) dWriting_addTags_61 (by decide) ?_
  refine go_virtP dWriting_addTags_62 ok_mTags_has im_mTags_has se_mTags_has qm_Writing_112 (hT.sm hs (by omega)).1 (a_Tags_has (k := 2) (by omega) (hT.sm hs (by omega))) ?_ (hnp := np_mTags_has)
  refine go_ifeq_b (tgt := 110) dWriting_addTags_65 (fun c1 => ?_) (fun c1 => ?_)
  · refine go_vret dWriting_addTags_110 rfl ?_ (Nat.le_of_ble_eq_true rfl) (Nat.le_of_ble_eq_true rfl)
    exact retX ⟨⟨_, by rw [hG, hR, tgW2, if_pos (Decidable.not_not.mp c1)]; exact hW⟩, hs⟩
  · refine go_aload_n dWriting_addTags_68 rfl ?_
    refine go_ldc dWriting_addTags_69 qc_Writing_122 ?_
    refine go_virtX dWriting_addTags_71 ok_mWriting_open im_mWriting_open se_mWriting_open qm_Writing_74 hW.1 (a_Writing_open (show ω.1.2 + 0 ≤ 1115 by omega) hW) (fun hx2 d2 q2 => ?_) (hnp := np_mWriting_open)
    have hW2 := q2.1
    have s2 := hs.trans q2.2
    refine go_aload_n dWriting_addTags_74 rfl ?_
    refine go_getf dWriting_addTags_75 qf_Writing_14 hW2.1 rfl ?_
    refine go_aload_n dWriting_addTags_78 rfl ?_
    refine go_iconst (v := 2) dWriting_addTags_79 (by decide) ?_
    refine go_virtP dWriting_addTags_80 ok_mTags_value im_mTags_value se_mTags_value qm_Writing_117 (hT.sm s2 (by omega)).1 (a_Tags_value (k := 2) (by omega) (hT.sm s2 (by omega))) ?_ (hnp := np_mTags_value)
    refine go_virtX dWriting_addTags_83 ok_mBytes_addNumber im_mBytes_addNumber se_mBytes_addNumber qm_Writing_86 hW2.2.1.1 (a_Bytes_addNumber hW2.2.1) (fun hx3 d3 q3 => ?_) (hnp := np_mBytes_addNumber)
    have hW3 := hW2.out q3.1 q3.2
    have s3 := s2.trans (q3.2.sub (by omega) (by omega))
    refine go_aload_n dWriting_addTags_86 rfl ?_
    refine go_getf dWriting_addTags_87 qf_Writing_14 hW3.1 rfl ?_
    refine go_aload_n dWriting_addTags_90 rfl ?_
    refine go_iconst (v := 2) dWriting_addTags_91 (by decide) ?_
    refine go_virtP dWriting_addTags_92 ok_mTags_value im_mTags_value se_mTags_value qm_Writing_117 (hT.sm s3 (by omega)).1 (a_Tags_value (k := 2) (by omega) (hT.sm s3 (by omega))) ?_ (hnp := np_mTags_value)
    refine go_virtX dWriting_addTags_95 ok_mBytes_addNumber im_mBytes_addNumber se_mBytes_addNumber qm_Writing_86 hW3.2.1.1 (a_Bytes_addNumber hW3.2.1) (fun hx4 d4 q4 => ?_) (hnp := np_mBytes_addNumber)
    have hW4 := hW3.out q4.1 q4.2
    have s4 := s3.trans (q4.2.sub (by omega) (by omega))
    refine go_aload_n dWriting_addTags_98 rfl ?_
    refine go_getf dWriting_addTags_99 qf_Writing_14 hW4.1 rfl ?_
    refine go_iconst (v := 1) dWriting_addTags_102 (by decide) ?_
    refine go_virtX dWriting_addTags_103 ok_mBytes_add im_mBytes_add se_mBytes_add qm_Writing_107 hW4.2.1.1 (a_Bytes_add hW4.2.1) (fun hx5 d5 q5 => ?_) (hnp := np_mBytes_add)
    have hW5 := hW4.out q5.1 q5.2
    have s5 := s4.trans (q5.2.sub (by omega) (by omega))
    refine go_aload_n dWriting_addTags_106 rfl ?_
    refine go_virtX dWriting_addTags_107 ok_mWriting_close im_mWriting_close se_mWriting_close qm_Writing_77 hW5.1 (a_Writing_close (hS.sm s5 (by omega)) (show ω.1.2 + 17 ≤ 1115 by omega) (show ω.1.2 + 0 + 8 ≤ ω.1.2 + 17 by omega) hW5) (fun hx6 d6 q6 => ?_) (hnp := np_mWriting_close)
    have hW6 := q6.1
    have s6 := s5.trans q6.2
    refine go_vret dWriting_addTags_110 rfl ?_ (Nat.le_of_ble_eq_true rfl) (Nat.le_of_ble_eq_true rfl)
    exact retX ⟨⟨_, by rw [hG, hR, tgW2, if_neg c1]; exact hW6⟩, s6⟩
set_option maxHeartbeats 4000000 in
theorem l_Writing_addTags1 {E : pmEv} {h0 h : pmH} {z : Option Nat} {d : Bool} {w t : Nat} {τ : Nat → Int32} {ω : aWr} (hS : SA E h0 w) (hd : t + 2 ≤ w ∨ w + 5 ≤ t) (hT : TgA h0 t τ) {G : aRow} {R : aRow} (hn : ω.1.2 + 34 ≤ 1115) (hW : WrA h w ω) (hs : Sm h0 h w 5) (hG : G = tgW2 τ (tgW1 τ ω.1)) (hR : R = ω.2.1) : Go E (mWriting_addTags, h0, 0, 0) 30 [some (.ref w), some (.ref t)] [] (h, z, d) 0 0 (RetX none (fun h' => (∃ o, WrA h' w (G, R, o)) ∧ Sm h0 h' w 5) z) := by
  refine go_aload_n dWriting_addTags_30 rfl ?_
  refine go_iconst (v := 1) dWriting_addTags_31 (by decide) ?_
  refine go_virtP dWriting_addTags_32 ok_mTags_has im_mTags_has se_mTags_has qm_Writing_112 (hT.sm hs (by omega)).1 (a_Tags_has (k := 1) (by omega) (hT.sm hs (by omega))) ?_ (hnp := np_mTags_has)
  refine go_ifeq_b (tgt := 60) dWriting_addTags_35 (fun c1 => ?_) (fun c1 => ?_)
  · exact l_Writing_addTags2 hS hd hT (by omega) hW hs (by rw [hG, tgW1, if_pos (Decidable.not_not.mp c1)]) hR
  · refine go_aload_n dWriting_addTags_38 rfl ?_
    refine go_ldc dWriting_addTags_39 qc_Writing_121 ?_
    refine go_virtX dWriting_addTags_41 ok_mWriting_open im_mWriting_open se_mWriting_open qm_Writing_74 hW.1 (a_Writing_open (show ω.1.2 + 0 ≤ 1115 by omega) hW) (fun hx2 d2 q2 => ?_) (hnp := np_mWriting_open)
    have hW2 := q2.1
    have s2 := hs.trans q2.2
    refine go_aload_n dWriting_addTags_44 rfl ?_
    refine go_getf dWriting_addTags_45 qf_Writing_14 hW2.1 rfl ?_
    refine go_aload_n dWriting_addTags_48 rfl ?_
    refine go_iconst (v := 1) dWriting_addTags_49 (by decide) ?_
    refine go_virtP dWriting_addTags_50 ok_mTags_value im_mTags_value se_mTags_value qm_Writing_117 (hT.sm s2 (by omega)).1 (a_Tags_value (k := 1) (by omega) (hT.sm s2 (by omega))) ?_ (hnp := np_mTags_value)
    refine go_virtX dWriting_addTags_53 ok_mBytes_add im_mBytes_add se_mBytes_add qm_Writing_107 hW2.2.1.1 (a_Bytes_add hW2.2.1) (fun hx3 d3 q3 => ?_) (hnp := np_mBytes_add)
    have hW3 := hW2.out q3.1 q3.2
    have s3 := s2.trans (q3.2.sub (by omega) (by omega))
    refine go_aload_n dWriting_addTags_56 rfl ?_
    refine go_virtX dWriting_addTags_57 ok_mWriting_close im_mWriting_close se_mWriting_close qm_Writing_77 hW3.1 (a_Writing_close (hS.sm s3 (by omega)) (show ω.1.2 + 9 ≤ 1115 by omega) (show ω.1.2 + 0 + 8 ≤ ω.1.2 + 9 by omega) hW3) (fun hx4 d4 q4 => ?_) (hnp := np_mWriting_close)
    have hW4 := q4.1
    have s4 := s3.trans q4.2
    exact l_Writing_addTags2 hS hd hT (by show ω.1.2 + 13 + 21 ≤ 1115; omega) hW4 s4 (by rw [hG, tgW1, if_neg c1]) hR
set_option maxHeartbeats 4000000 in
theorem a_Writing_addTags {E : pmEv} {h : pmH} {z : Option Nat} {w t : Nat} {τ : Nat → Int32} {ω : aWr} (hS : SA E h w) (hd : t + 2 ≤ w ∨ w + 5 ≤ t) (hn : ω.1.2 + 50 ≤ 1115) (hT : TgA h t τ) (hW : WrA h w ω) : Call E mWriting_addTags [.ref w, .ref t] h z 0 0 (RetX none (fun h' => (∃ o, WrA h' w (tgW τ ω.1, ω.2.1, o)) ∧ Sm h h' w 5) z) := by
  have hs : Sm h h w 5 := Sm.refl _ _ _
  refine call_of (L := [some (.ref w), some (.ref t)]) ok_mWriting_addTags (Nat.le_of_ble_eq_true rfl) ?_
  refine go_aload_n dWriting_addTags_0 rfl ?_
  refine go_iconst (v := 0) dWriting_addTags_1 (by decide) ?_
  refine go_virtP dWriting_addTags_2 ok_mTags_has im_mTags_has se_mTags_has qm_Writing_112 (hT.sm hs (by omega)).1 (a_Tags_has (k := 0) (by omega) (hT.sm hs (by omega))) ?_ (hnp := np_mTags_has)
  refine go_ifeq_b (tgt := 30) dWriting_addTags_5 (fun c1 => ?_) (fun c1 => ?_)
  · exact l_Writing_addTags1 hS hd hT (by omega) hW hs (by rw [tgW, tgW0, if_pos (Decidable.not_not.mp c1)]) rfl
  · refine go_aload_n dWriting_addTags_8 rfl ?_
    refine go_ldc dWriting_addTags_9 qc_Writing_116 ?_
    refine go_virtX dWriting_addTags_11 ok_mWriting_open im_mWriting_open se_mWriting_open qm_Writing_74 hW.1 (a_Writing_open (show ω.1.2 + 0 ≤ 1115 by omega) hW) (fun hx2 d2 q2 => ?_) (hnp := np_mWriting_open)
    have hW2 := q2.1
    have s2 := hs.trans q2.2
    refine go_aload_n dWriting_addTags_14 rfl ?_
    refine go_getf dWriting_addTags_15 qf_Writing_14 hW2.1 rfl ?_
    refine go_aload_n dWriting_addTags_18 rfl ?_
    refine go_iconst (v := 0) dWriting_addTags_19 (by decide) ?_
    refine go_virtP dWriting_addTags_20 ok_mTags_value im_mTags_value se_mTags_value qm_Writing_117 (hT.sm s2 (by omega)).1 (a_Tags_value (k := 0) (by omega) (hT.sm s2 (by omega))) ?_ (hnp := np_mTags_value)
    refine go_virtX dWriting_addTags_23 ok_mBytes_addNumber im_mBytes_addNumber se_mBytes_addNumber qm_Writing_86 hW2.2.1.1 (a_Bytes_addNumber hW2.2.1) (fun hx3 d3 q3 => ?_) (hnp := np_mBytes_addNumber)
    have hW3 := hW2.out q3.1 q3.2
    have s3 := s2.trans (q3.2.sub (by omega) (by omega))
    refine go_aload_n dWriting_addTags_26 rfl ?_
    refine go_virtX dWriting_addTags_27 ok_mWriting_close im_mWriting_close se_mWriting_close qm_Writing_77 hW3.1 (a_Writing_close (hS.sm s3 (by omega)) (show ω.1.2 + 12 ≤ 1115 by omega) (show ω.1.2 + 0 + 8 ≤ ω.1.2 + 12 by omega) hW3) (fun hx4 d4 q4 => ?_) (hnp := np_mWriting_close)
    have hW4 := q4.1
    have s4 := s3.trans q4.2
    exact l_Writing_addTags1 hS hd hT (by show ω.1.2 + 16 + 34 ≤ 1115; omega) hW4 s4 (by rw [tgW, tgW0, if_neg c1]) rfl
set_option maxHeartbeats 4000000 in
theorem l_Writing_addPalette_in {E : pmEv} {h0 : pmH} {z : Option Nat} {w q : Nat} {c : aRow} {R : aRow} {G : aRow} (hS : SA E h0 w) (hd : q + 2 ≤ w ∨ w + 5 ≤ q) (hQ : PaA h0 q c) {k : Nat} (hk : k < c.2) : ∀ (n : Nat) (i : Nat) (ω : aWr) (h : pmH) (d : Bool), i + n = 3 → WrA h w ω → Sm h0 h w 5 → (∀ hx dx, WrA hx w (wAs (fun i => c.1 (4 * k + i)) i n ω.1, ω.2) → Sm h0 hx w 5 → Go E (mWriting_addPalette, h0, 0, 0) 42 [some (.ref w), some (.ref q), some (.int (nI (k))), some (.int (nI (3)))] [] (hx, z, dx) 0 0 (RetX none (fun h' => (∃ o, WrA h' w (G, R, o)) ∧ Sm h0 h' w 5) z)) → Go E (mWriting_addPalette, h0, 0, 0) 18 [some (.ref w), some (.ref q), some (.int (nI (k))), some (.int (nI (i)))] [] (h, z, d) 0 0 (RetX none (fun h' => (∃ o, WrA h' w (G, R, o)) ∧ Sm h0 h' w 5) z) := by
  intro n
  induction n with
  | zero =>
    intro i ω h d hi hW hs hkk
    refine go_iload_n dWriting_addPalette_18 rfl ?_
    refine go_iconst (v := 3) dWriting_addPalette_19 (by decide) ?_
    refine go_icmp_ge (tgt := 42) dWriting_addPalette_20 (fun c1 => ?_) (fun c1 => ?_)
    · obtain rfl : i = 3 := by omega
      exact hkk h d hW hs
    · exact absurd (nI_le (a := 3) (b := i) (by omega) (by omega)) c1
  | succ n ih =>
    intro i ω h d hi hW hs hkk
    refine go_iload_n dWriting_addPalette_18 rfl ?_
    refine go_iconst (v := 3) dWriting_addPalette_19 (by decide) ?_
    refine go_icmp_ge (tgt := 42) dWriting_addPalette_20 (fun c1 => ?_) (fun c1 => ?_)
    · exact absurd c1 (nI_ge (a := i) (b := 3) (by omega) (by omega))
    · refine go_aload_n dWriting_addPalette_23 rfl ?_
      refine go_getf dWriting_addPalette_24 qf_Writing_14 hW.1 rfl ?_
      refine go_aload_n dWriting_addPalette_27 rfl ?_
      refine go_iload_n dWriting_addPalette_28 rfl ?_
      refine go_iload_n dWriting_addPalette_29 rfl ?_
      refine go_virtP dWriting_addPalette_30 ok_mPalette_part im_mPalette_part se_mPalette_part qm_Writing_127 (hQ.sm hs (by omega)).1 (a_Palette_part (k := k) (w := i) (by omega) (by omega) (hQ.sm hs (by omega))) ?_ (hnp := np_mPalette_part)
      refine go_virtX dWriting_addPalette_33 ok_mBytes_add im_mBytes_add se_mBytes_add qm_Writing_107 hW.2.1.1 (a_Bytes_add hW.2.1) (fun hx2 d2 q2 => ?_) (hnp := np_mBytes_add)
      have hW2 := hW.out q2.1 q2.2
      have s2 := hs.trans (q2.2.sub (by omega) (by omega))
      refine go_iinc dWriting_addPalette_36 rfl (congrArg (_ + ·) lit1) ?_
      refine go_goto (tgt := 18) dWriting_addPalette_39 ?_
      exact go_at (ih (i + 1) _ hx2 d2 (by omega) hW2 s2 hkk) rfl (by rw [nI_succ i]; rfl) rfl rfl
set_option maxHeartbeats 4000000 in
theorem l_Writing_addPalette {E : pmEv} {h0 : pmH} {z : Option Nat} {w q : Nat} {c : aRow} {R : aRow} {G : aRow} (hS : SA E h0 w) (hd : q + 2 ≤ w ∨ w + 5 ≤ q) (hQ : PaA h0 q c) : ∀ (n : Nat) (k : Nat) (ω : aWr) (h : pmH) (d : Bool), k + n = c.2 → ω.1.2 + 3 * n + 4 ≤ 1115 → ω.2.2 + 8 ≤ ω.1.2 → WrA h w ω → Sm h0 h w 5 → G = clW (wPl c.1 n k ω.1) ω.2.2 → R = ω.2.1 → Go E (mWriting_addPalette, h0, 0, 0) 8 [some (.ref w), some (.ref q), some (.int (nI (k))), none] [] (h, z, d) 0 0 (RetX none (fun h' => (∃ o, WrA h' w (G, R, o)) ∧ Sm h0 h' w 5) z) := by
  intro n
  induction n with
  | zero =>
    intro k ω h d hk hn hop hW hs hG hR
    have hc := hQ.2.2
    refine go_iload_n dWriting_addPalette_8 rfl ?_
    refine go_aload_n dWriting_addPalette_9 rfl ?_
    refine go_getf dWriting_addPalette_10 qf_Writing_124 (hQ.sm hs (by omega)).1 rfl ?_
    refine go_icmp_ge (tgt := 48) dWriting_addPalette_13 (fun c1 => ?_) (fun c1 => ?_)
    · refine go_aload_n dWriting_addPalette_48 rfl ?_
      refine go_virtX dWriting_addPalette_49 ok_mWriting_close im_mWriting_close se_mWriting_close qm_Writing_77 hW.1 (a_Writing_close (hS.sm hs (by omega)) (show ω.1.2 + 0 ≤ 1115 by omega) (show ω.2.2 + 0 + 8 ≤ ω.1.2 + 0 by omega) hW) (fun hx2 d2 q2 => ?_) (hnp := np_mWriting_close)
      have hW2 := q2.1
      have s2 := hs.trans q2.2
      refine go_vret dWriting_addPalette_52 rfl ?_ (Nat.le_of_ble_eq_true rfl) (Nat.le_of_ble_eq_true rfl)
      exact retX ⟨⟨_, by rw [hG, hR, wPl]; exact hW2⟩, s2⟩
    · exact absurd (nI_le (a := c.2) (b := k) (by omega) (by omega)) c1
  | succ n ih =>
    intro k ω h d hk hn hop hW hs hG hR
    have hc := hQ.2.2
    refine go_iload_n dWriting_addPalette_8 rfl ?_
    refine go_aload_n dWriting_addPalette_9 rfl ?_
    refine go_getf dWriting_addPalette_10 qf_Writing_124 (hQ.sm hs (by omega)).1 rfl ?_
    refine go_icmp_ge (tgt := 48) dWriting_addPalette_13 (fun c1 => ?_) (fun c1 => ?_)
    · exact absurd c1 (nI_ge (a := k) (b := c.2) (by omega) (by omega))
    · refine go_iconst (v := 0) dWriting_addPalette_16 (by decide) ?_
      refine go_istore_n dWriting_addPalette_17 ?_
      refine l_Writing_addPalette_in (G := G) (R := R) hS hd hQ (k := k) (by omega) 3 0 ω h d (by omega) hW hs (fun hx2 dx2 hW2 hs2 => ?_)
      refine go_iinc dWriting_addPalette_42 rfl (congrArg (_ + ·) lit1) ?_
      refine go_goto (tgt := 8) dWriting_addPalette_45 ?_
      refine go_fg 3 ?_
      exact go_at (ih (k + 1) _ hx2 dx2 (by omega) (show ω.1.2 + 3 + 3 * n + 4 ≤ 1115 by omega) (show ω.2.2 + 8 ≤ ω.1.2 + 3 by omega) hW2 hs2 hG hR) rfl (by rw [nI_succ k]; rfl) rfl rfl
set_option maxHeartbeats 4000000 in
theorem a_Writing_addPalette {E : pmEv} {h : pmH} {z : Option Nat} {w q : Nat} {c : aRow} {ω : aWr} (hS : SA E h w) (hd : q + 2 ≤ w ∨ w + 5 ≤ q) (hn : ω.1.2 + 3 * c.2 + 12 ≤ 1115) (hQ : PaA h q c) (hW : WrA h w ω) : Call E mWriting_addPalette [.ref w, .ref q] h z 0 0 (RetX none (fun h' => (∃ o, WrA h' w (plW c ω.1, ω.2.1, o)) ∧ Sm h h' w 5) z) := by
  have hs : Sm h h w 5 := Sm.refl _ _ _
  refine call_of (L := [some (.ref w), some (.ref q), none, none]) ok_mWriting_addPalette (Nat.le_of_ble_eq_true rfl) ?_
  refine go_aload_n dWriting_addPalette_0 rfl ?_
  refine go_ldc dWriting_addPalette_1 qc_Writing_123 ?_
  refine go_virtX dWriting_addPalette_3 ok_mWriting_open im_mWriting_open se_mWriting_open qm_Writing_74 hW.1 (a_Writing_open (show ω.1.2 + 0 ≤ 1115 by omega) hW) (fun hx1 d1 q1 => ?_) (hnp := np_mWriting_open)
  have hW1 := q1.1
  have s1 := hs.trans q1.2
  refine go_iconst (v := 0) dWriting_addPalette_6 (by decide) ?_
  refine go_istore_n dWriting_addPalette_7 ?_
  exact l_Writing_addPalette hS hd hQ c.2 0 _ hx1 d1 (by omega) (show ω.1.2 + 8 + 3 * c.2 + 4 ≤ 1115 by omega) (show ω.1.2 + 8 ≤ ω.1.2 + 8 by omega) hW1 s1 rfl rfl
set_option maxHeartbeats 4000000 in
theorem l_Writing_addAlphas {E : pmEv} {h0 : pmH} {z : Option Nat} {w q : Nat} {c : aRow} {R : aRow} {G : aRow} (hS : SA E h0 w) (hd : q + 2 ≤ w ∨ w + 5 ≤ q) (hQ : PaA h0 q c) {m : Nat} (hm : m ≤ c.2) : ∀ (n : Nat) (i : Nat) (ω : aWr) (h : pmH) (d : Bool), i + n = m → ω.1.2 + n + 4 ≤ 1115 → ω.2.2 + 8 ≤ ω.1.2 → WrA h w ω → Sm h0 h w 5 → G = clW (wAs (fun i => c.1 (4 * i + 3)) i n ω.1) ω.2.2 → R = ω.2.1 → Go E (mWriting_addAlphas, h0, 0, 0) 17 [some (.ref w), some (.ref q), some (.int (nI m)), some (.int (nI (i)))] [] (h, z, d) 0 0 (RetX none (fun h' => (∃ o, WrA h' w (G, R, o)) ∧ Sm h0 h' w 5) z) := by
  intro n
  induction n with
  | zero =>
    intro i ω h d hi hn hop hW hs hG hR
    have hc := hQ.2.2
    refine go_iload_n dWriting_addAlphas_17 rfl ?_
    refine go_iload_n dWriting_addAlphas_18 rfl ?_
    refine go_icmp_ge (tgt := 41) dWriting_addAlphas_19 (fun c1 => ?_) (fun c1 => ?_)
    · refine go_aload_n dWriting_addAlphas_41 rfl ?_
      refine go_virtX dWriting_addAlphas_42 ok_mWriting_close im_mWriting_close se_mWriting_close qm_Writing_77 hW.1 (a_Writing_close (hS.sm hs (by omega)) (show ω.1.2 + 0 ≤ 1115 by omega) (show ω.2.2 + 0 + 8 ≤ ω.1.2 + 0 by omega) hW) (fun hx2 d2 q2 => ?_) (hnp := np_mWriting_close)
      have hW2 := q2.1
      have s2 := hs.trans q2.2
      refine go_vret dWriting_addAlphas_45 rfl ?_ (Nat.le_of_ble_eq_true rfl) (Nat.le_of_ble_eq_true rfl)
      exact retX ⟨⟨_, by rw [hG, hR, wAs]; exact hW2⟩, s2⟩
    · exact absurd (nI_le (a := m) (b := i) (by omega) (by omega)) c1
  | succ n ih =>
    intro i ω h d hi hn hop hW hs hG hR
    have hc := hQ.2.2
    refine go_iload_n dWriting_addAlphas_17 rfl ?_
    refine go_iload_n dWriting_addAlphas_18 rfl ?_
    refine go_icmp_ge (tgt := 41) dWriting_addAlphas_19 (fun c1 => ?_) (fun c1 => ?_)
    · exact absurd c1 (nI_ge (a := i) (b := m) (by omega) (by omega))
    · refine go_aload_n dWriting_addAlphas_22 rfl ?_
      refine go_getf dWriting_addAlphas_23 qf_Writing_14 hW.1 rfl ?_
      refine go_aload_n dWriting_addAlphas_26 rfl ?_
      refine go_iload_n dWriting_addAlphas_27 rfl ?_
      refine go_iconst (v := 3) dWriting_addAlphas_28 (by decide) ?_
      refine go_virtP dWriting_addAlphas_29 ok_mPalette_part im_mPalette_part se_mPalette_part qm_Writing_127 (hQ.sm hs (by omega)).1 (a_Palette_part (k := i) (w := 3) (by omega) (by omega) (hQ.sm hs (by omega))) ?_ (hnp := np_mPalette_part)
      refine go_virtX dWriting_addAlphas_32 ok_mBytes_add im_mBytes_add se_mBytes_add qm_Writing_107 hW.2.1.1 (a_Bytes_add hW.2.1) (fun hx2 d2 q2 => ?_) (hnp := np_mBytes_add)
      have hW2 := hW.out q2.1 q2.2
      have s2 := hs.trans (q2.2.sub (by omega) (by omega))
      refine go_iinc dWriting_addAlphas_35 rfl (congrArg (_ + ·) lit1) ?_
      refine go_goto (tgt := 17) dWriting_addAlphas_38 ?_
      exact go_at (ih (i + 1) _ hx2 d2 (by omega) (show ω.1.2 + 1 + n + 4 ≤ 1115 by omega) (show ω.2.2 + 8 ≤ ω.1.2 + 1 by omega) hW2 s2 hG hR) rfl (by rw [nI_succ i]; rfl) rfl rfl
set_option maxHeartbeats 4000000 in
theorem a_Writing_addAlphas {E : pmEv} {h : pmH} {z : Option Nat} {w q : Nat} {c : aRow} {ω : aWr} (hS : SA E h w) (hd : q + 2 ≤ w ∨ w + 5 ≤ q) (hn : ω.1.2 + c.2 + 12 ≤ 1115) (hQ : PaA h q c) (hW : WrA h w ω) : Call E mWriting_addAlphas [.ref w, .ref q] h z 0 0 (RetX none (fun h' => (∃ o, WrA h' w (alW c ω.1, ω.2.1, o)) ∧ Sm h h' w 5) z) := by
  have hs : Sm h h w 5 := Sm.refl _ _ _
  have hal := alN_le c.1 c.2
  have hc := hQ.2.2
  refine call_of (L := [some (.ref w), some (.ref q), none, none]) ok_mWriting_addAlphas (Nat.le_of_ble_eq_true rfl) ?_
  refine go_aload_n dWriting_addAlphas_0 rfl ?_
  refine go_virtP dWriting_addAlphas_1 ok_mPalette_alphasToTell im_mPalette_alphasToTell se_mPalette_alphasToTell qm_Writing_130 (hQ.sm hs (by omega)).1 (a_Palette_alphasToTell hQ) ?_ (hnp := np_mPalette_alphasToTell)
  refine go_istore_n dWriting_addAlphas_4 ?_
  refine go_iload_n dWriting_addAlphas_5 rfl ?_
  refine go_if_le (tgt := 45) dWriting_addAlphas_6 (fun c1 => ?_) (fun c1 => ?_)
  · refine go_vret dWriting_addAlphas_45 rfl ?_ (Nat.le_of_ble_eq_true rfl) (Nat.le_of_ble_eq_true rfl)
    exact retX ⟨⟨_, by rw [alW, if_pos (Nat.eq_zero_of_not_pos fun q => nI_nle q (by omega) c1)]; exact hW⟩, hs⟩
  · refine go_aload_n dWriting_addAlphas_9 rfl ?_
    refine go_ldc dWriting_addAlphas_10 qc_Writing_134 ?_
    refine go_virtX dWriting_addAlphas_12 ok_mWriting_open im_mWriting_open se_mWriting_open qm_Writing_74 hW.1 (a_Writing_open (show ω.1.2 + 0 ≤ 1115 by omega) hW) (fun hx2 d2 q2 => ?_) (hnp := np_mWriting_open)
    have hW2 := q2.1
    have s2 := hs.trans q2.2
    refine go_iconst (v := 0) dWriting_addAlphas_15 (by decide) ?_
    refine go_istore_n dWriting_addAlphas_16 ?_
    exact (l_Writing_addAlphas hS hd hQ hal (alN c.1 c.2) 0 _ hx2 d2 (by omega) (show ω.1.2 + 8 + alN c.1 c.2 + 4 ≤ 1115 by omega) (show ω.1.2 + 8 ≤ ω.1.2 + 8 by omega) hW2 s2 rfl rfl).mono fun o S q => by rw [alW, if_neg (fun e => c1 (by rw [e]; decide))]; exact q
set_option maxHeartbeats 4000000 in
theorem l_Writing_addRows_in {E : pmEv} {h0 : pmH} {z : Option Nat} {w p : Nat} {q G : aRow} (hS : SA E h0 w) (hq : q.2 ≤ 588) {a e : Nat} (he : e ≤ q.2) : ∀ (n : Nat) (i : Nat) (ω : aWr) (h : pmH) (d : Bool), i + n = e → ω.2.1 = q → WrA h w ω → Sm h0 h w 5 → (∀ hx dx, WrA hx w (wAs q.1 i n ω.1, ω.2) → Sm h0 hx w 5 → Go E (mWriting_addRows, h0, 0, 0) 73 [some (.ref w), some (.ref p), some (.int (nI (a))), some (.int (nI (e))), some (.int (nI (e)))] [] (hx, z, dx) 0 0 (RetX none (fun h' => (∃ o, WrA h' w (G, q, o)) ∧ Sm h0 h' w 5) z)) → Go E (mWriting_addRows, h0, 0, 0) 45 [some (.ref w), some (.ref p), some (.int (nI (a))), some (.int (nI (e))), some (.int (nI (i)))] [] (h, z, d) 0 0 (RetX none (fun h' => (∃ o, WrA h' w (G, q, o)) ∧ Sm h0 h' w 5) z) := by
  intro n
  induction n with
  | zero =>
    intro i ω h d hi hR hW hs hkk
    refine go_iload dWriting_addRows_45 rfl ?_
    refine go_iload_n dWriting_addRows_47 rfl ?_
    refine go_icmp_ge (tgt := 73) dWriting_addRows_48 (fun c1 => ?_) (fun c1 => ?_)
    · obtain rfl : i = e := by omega
      exact hkk h d hW hs
    · exact absurd (nI_le (a := e) (b := i) (by omega) (by omega)) c1
  | succ n ih =>
    intro i ω h d hi hR hW hs hkk
    refine go_iload dWriting_addRows_45 rfl ?_
    refine go_iload_n dWriting_addRows_47 rfl ?_
    refine go_icmp_ge (tgt := 73) dWriting_addRows_48 (fun c1 => ?_) (fun c1 => ?_)
    · exact absurd c1 (nI_ge (a := i) (b := e) (by omega) (by omega))
    · refine go_aload_n dWriting_addRows_51 rfl ?_
      refine go_getf dWriting_addRows_52 qf_Writing_14 hW.1 rfl ?_
      refine go_aload_n dWriting_addRows_55 rfl ?_
      refine go_getf dWriting_addRows_56 qf_Writing_20 hW.1 rfl ?_
      refine go_iload dWriting_addRows_59 rfl ?_
      refine go_virtP dWriting_addRows_61 ok_mBytes_value im_mBytes_value se_mBytes_value qm_Writing_145 hW.2.2.1 (a_Bytes_value hW.2.2 (show ω.2.1.2 ≤ 588 by rw [hR]; exact hq)) ?_ (hnp := np_mBytes_value)
      rw [hR, bv_n (by omega) (by omega), if_pos (show i < q.2 by omega)]
      refine go_virtX dWriting_addRows_64 ok_mBytes_add im_mBytes_add se_mBytes_add qm_Writing_107 hW.2.1.1 (a_Bytes_add hW.2.1) (fun hx2 d2 q2 => ?_) (hnp := np_mBytes_add)
      have hW2 := hW.out q2.1 q2.2
      have s2 := hs.trans (q2.2.sub (by omega) (by omega))
      refine go_iinc dWriting_addRows_67 rfl (congrArg (_ + ·) lit1) ?_
      refine go_goto (tgt := 45) dWriting_addRows_70 ?_
      exact go_at (ih (i + 1) (wA ω.1 (q.1 i), ω.2) hx2 d2 (by omega) hR hW2 s2 hkk) rfl (by rw [nI_succ i]; rfl) rfl rfl
set_option maxHeartbeats 4000000 in
theorem l_Writing_addRows {E : pmEv} {h0 : pmH} {z : Option Nat} {w p : Nat} {q G : aRow} (hS : SA E h0 w) (hq : q.2 ≤ 588) : ∀ (n : Nat) (a : Nat) (ω : aWr) (h : pmH) (d : Bool), a ≤ 660 → q.2 ≤ a + 60 * n → ω.1.2 + (q.2 - a) + 12 * n ≤ 1115 → ω.2.1 = q → WrA h w ω → Sm h0 h w 5 → G = wRs q n a ω.1 → Go E (mWriting_addRows, h0, 0, 0) 10 [some (.ref w), some (.ref p), some (.int (nI (a))), none, none] [] (h, z, d) 0 0 (RetX none (fun h' => (∃ o, WrA h' w (G, q, o)) ∧ Sm h0 h' w 5) z) := by
  intro n
  induction n with
  | zero =>
    intro a ω h d ha hn hl hR hW hs hG
    refine go_iload_n dWriting_addRows_10 rfl ?_
    refine go_aload_n dWriting_addRows_11 rfl ?_
    refine go_getf dWriting_addRows_12 qf_Writing_20 hW.1 rfl ?_
    refine go_getf dWriting_addRows_15 qf_Writing_80 hW.2.2.1 rfl ?_
    rw [hR, Nat.min_eq_right hq]
    refine go_icmp_ge (tgt := 83) dWriting_addRows_18 (fun c1 => ?_) (fun c1 => ?_)
    · refine go_vret dWriting_addRows_83 rfl ?_ (Nat.le_of_ble_eq_true rfl) (Nat.le_of_ble_eq_true rfl)
      exact retX ⟨⟨_, by rw [hG, wRs]; exact (by rw [← hR]; exact hW)⟩, hs⟩
    · exact absurd (nI_le (a := q.2) (b := a) (by omega) (by omega)) c1
  | succ n ih =>
    intro a ω h d ha hn hl hR hW hs hG
    refine go_iload_n dWriting_addRows_10 rfl ?_
    refine go_aload_n dWriting_addRows_11 rfl ?_
    refine go_getf dWriting_addRows_12 qf_Writing_20 hW.1 rfl ?_
    refine go_getf dWriting_addRows_15 qf_Writing_80 hW.2.2.1 rfl ?_
    rw [hR, Nat.min_eq_right hq]
    refine go_icmp_ge (tgt := 83) dWriting_addRows_18 (fun c1 => ?_) (fun c1 => ?_)
    · refine go_vret dWriting_addRows_83 rfl ?_ (Nat.le_of_ble_eq_true rfl) (Nat.le_of_ble_eq_true rfl)
      exact retX ⟨⟨_, by rw [hG, wRs, if_neg (fun e => absurd c1 (nI_ge e (by omega)))]; exact (by rw [← hR]; exact hW)⟩, hs⟩
    · refine go_aload_n dWriting_addRows_21 rfl ?_
      refine go_getf dWriting_addRows_22 qf_Writing_20 hW.1 rfl ?_
      refine go_getf dWriting_addRows_25 qf_Writing_80 hW.2.2.1 rfl ?_
      refine go_iload_n dWriting_addRows_28 rfl ?_
      refine go_bipush (v := 60) dWriting_addRows_29 (by decide) ?_
      refine go_iadd dWriting_addRows_31 ?_
      rw [hR, Nat.min_eq_right hq, show (60 : Int32) = nI 60 from rfl, nI_add]
      refine go_statP dWriting_addRows_32 ok_mMath_min st_mMath_min qm_Writing_139 c_Math_min ?_ (hnp := np_mMath_min)
      rw [mn_n (by omega) (by omega)]
      refine go_istore_n dWriting_addRows_35 ?_
      refine go_aload_n dWriting_addRows_36 rfl ?_
      refine go_ldc dWriting_addRows_37 qc_Writing_144 ?_
      refine go_virtX dWriting_addRows_39 ok_mWriting_open im_mWriting_open se_mWriting_open qm_Writing_74 hW.1 (a_Writing_open (show ω.1.2 + 0 ≤ 1115 by omega) hW) (fun hx2 d2 q2 => ?_) (hnp := np_mWriting_open)
      have hW2 := q2.1
      have s2 := hs.trans q2.2
      refine go_iload_n dWriting_addRows_42 rfl ?_
      refine go_istore dWriting_addRows_43 ?_
      have hlt : a < q.2 := Nat.not_le.mp fun e => c1 (nI_le e (by omega))
      have e1 := wAs_2 q.1 (min q.2 (a + 60) - a) a (opW ω.1 1229209940)
      have e2 : (opW ω.1 1229209940).2 = ω.1.2 + 8 := rfl
      refine l_Writing_addRows_in (G := G) hS hq (a := a) (e := min q.2 (a + 60)) (Nat.min_le_left _ _) (min q.2 (a + 60) - a) a (opW ω.1 1229209940, ω.2.1, ω.1.2) hx2 d2 (by omega) hR hW2 s2 (fun hx3 dx3 hW3 hs3 => ?_)
      refine go_aload_n dWriting_addRows_73 rfl ?_
      refine go_virtX dWriting_addRows_74 ok_mWriting_close im_mWriting_close se_mWriting_close qm_Writing_77 hW3.1 (a_Writing_close (hS.sm hs3 (by omega)) (by show (wAs q.1 a (min q.2 (a + 60) - a) (opW ω.1 1229209940)).2 ≤ 1115; rw [e1, e2]; omega) (by show ω.1.2 + 8 ≤ (wAs q.1 a (min q.2 (a + 60) - a) (opW ω.1 1229209940)).2; rw [e1, e2]; omega) hW3) (fun hx4 d4 q4 => ?_) (hnp := np_mWriting_close)
      refine go_iinc dWriting_addRows_77 rfl rfl ?_
      refine go_goto (tgt := 10) dWriting_addRows_80 ?_
      refine go_fg 3 (go_fg 4 ?_)
      exact go_at (ih (a + 60) (clW (wAs q.1 a (min q.2 (a + 60) - a) (opW ω.1 1229209940)) ω.1.2, ω.2.1, ω.1.2) hx4 d4 (by omega) (by omega) (by show (wAs q.1 a (min q.2 (a + 60) - a) (opW ω.1 1229209940)).2 + 4 + (q.2 - (a + 60)) + 12 * n ≤ 1115; rw [e1, e2]; omega) hR q4.1 (hs3.trans q4.2) (by rw [hG, wRs, if_pos hlt])) rfl (by rw [show nI (a + 60) = nI a + Int32.ofInt 60 from (nI_add a 60).symm]; rfl) rfl rfl
set_option maxHeartbeats 4000000 in
theorem a_Writing_addRows {E : pmEv} {h : pmH} {z : Option Nat} {w p : Nat} {t : Bool} {π : aPic} {ω : aWr} (hS : SA E h w) (hd : p + 10 ≤ w ∨ w + 5 ≤ p) (hq : (pkC π).2 ≤ 588) (hn : ω.1.2 + (pkC π).2 + 120 ≤ 1115) (hP : PiA h p t π) (hW : WrA h w ω) : Call E mWriting_addRows [.ref w, .ref p] h z 0 0 (RetX none (fun h' => (∃ o, WrA h' w (wRs (pkC π) 10 0 ω.1, pkC π, o)) ∧ Sm h h' w 5) z) := by
  have hs : Sm h h w 5 := Sm.refl _ _ _
  refine call_of (L := [some (.ref w), some (.ref p), none, none, none]) ok_mWriting_addRows (Nat.le_of_ble_eq_true rfl) ?_
  refine go_aload_n dWriting_addRows_0 rfl ?_
  refine go_aload_n dWriting_addRows_1 rfl ?_
  refine go_getf dWriting_addRows_2 qf_Writing_20 hW.1 rfl ?_
  refine go_statX dWriting_addRows_5 ok_mRows_pack st_mRows_pack qm_Writing_135 (a_Rows_pack (by omega) hP hW.2.2) (fun hx1 d1 q1 => ?_) (hnp := np_mRows_pack)
  refine go_iconst (v := 0) dWriting_addRows_8 (by decide) ?_
  refine go_istore_n dWriting_addRows_9 ?_
  have hW1 := hW.row (q1.1.ag (pkC_ag π ω.2.1.1)) q1.2
  exact l_Writing_addRows (q := pkC π) hS hq 10 0 (ω.1, pkC π, ω.2.2) hx1 d1 (by omega) (by omega) (show ω.1.2 + ((pkC π).2 - 0) + 12 * 10 ≤ 1115 by omega) rfl hW1 (q1.2.sub (by omega) (by omega)) rfl
set_option maxHeartbeats 4000000 in
theorem l_Writing_addExtras_in {E : pmEv} {h0 : pmH} {z : Option Nat} {w x : Nat} {e : aExt} {R : aRow} {G : aRow} (hS : SA E h0 w) (hd : x + 4 ≤ w ∨ w + 5 ≤ x) (hX : ExA h0 x e) {k : Nat} (hk : k < e.2.2.2) : ∀ (n : Nat) (i : Nat) (ω : aWr) (h : pmH) (d : Bool), i + n = e.2.1 k → WrA h w ω → Sm h0 h w 5 → (∀ hx dx, WrA hx w (wAs (fun i => e.2.2.1 (40 * k + i)) i n ω.1, ω.2) → Sm h0 hx w 5 → Go E (mWriting_addExtras, h0, 0, 0) 49 [some (.ref w), some (.ref x), some (.int (nI (k))), some (.int (nI (e.2.1 k)))] [] (hx, z, dx) 0 0 (RetX none (fun h' => (∃ o, WrA h' w (G, R, o)) ∧ Sm h0 h' w 5) z)) → Go E (mWriting_addExtras, h0, 0, 0) 21 [some (.ref w), some (.ref x), some (.int (nI (k))), some (.int (nI (i)))] [] (h, z, d) 0 0 (RetX none (fun h' => (∃ o, WrA h' w (G, R, o)) ∧ Sm h0 h' w 5) z) := by
  intro n
  induction n with
  | zero =>
    intro i ω h d hi hW hs hkk
    obtain ⟨_, ⟨_, _, _, _, _, _, hE⟩, hc⟩ := id hX
    have hz := fun k hk => (hE.2.1 k hk).2
    have hz2 := hz k hk
    refine go_iload_n dWriting_addExtras_21 rfl ?_
    refine go_aload_n dWriting_addExtras_22 rfl ?_
    refine go_iload_n dWriting_addExtras_23 rfl ?_
    refine go_virtP dWriting_addExtras_24 ok_mExtras_lengthOf im_mExtras_lengthOf se_mExtras_lengthOf qm_Writing_152 (hX.sm hs (by omega)).1 (a_Extras_lengthOf (k := k) (by omega) (hX.sm hs (by omega))) ?_ (hnp := np_mExtras_lengthOf)
    refine go_icmp_ge (tgt := 49) dWriting_addExtras_27 (fun c1 => ?_) (fun c1 => ?_)
    · obtain rfl : i = e.2.1 k := by omega
      exact hkk h d hW hs
    · exact absurd (nI_le (a := e.2.1 k) (b := i) (by omega) (by omega)) c1
  | succ n ih =>
    intro i ω h d hi hW hs hkk
    obtain ⟨_, ⟨_, _, _, _, _, _, hE⟩, hc⟩ := id hX
    have hz := fun k hk => (hE.2.1 k hk).2
    have hz2 := hz k hk
    refine go_iload_n dWriting_addExtras_21 rfl ?_
    refine go_aload_n dWriting_addExtras_22 rfl ?_
    refine go_iload_n dWriting_addExtras_23 rfl ?_
    refine go_virtP dWriting_addExtras_24 ok_mExtras_lengthOf im_mExtras_lengthOf se_mExtras_lengthOf qm_Writing_152 (hX.sm hs (by omega)).1 (a_Extras_lengthOf (k := k) (by omega) (hX.sm hs (by omega))) ?_ (hnp := np_mExtras_lengthOf)
    refine go_icmp_ge (tgt := 49) dWriting_addExtras_27 (fun c1 => ?_) (fun c1 => ?_)
    · exact absurd c1 (nI_ge (a := i) (b := e.2.1 k) (by omega) (by omega))
    · refine go_aload_n dWriting_addExtras_30 rfl ?_
      refine go_getf dWriting_addExtras_31 qf_Writing_14 hW.1 rfl ?_
      refine go_aload_n dWriting_addExtras_34 rfl ?_
      refine go_iload_n dWriting_addExtras_35 rfl ?_
      refine go_iload_n dWriting_addExtras_36 rfl ?_
      refine go_virtP dWriting_addExtras_37 ok_mExtras_value im_mExtras_value se_mExtras_value qm_Writing_155 (hX.sm hs (by omega)).1 (a_Extras_value (k := k) (i := i) (by omega) (by omega) (hX.sm hs (by omega))) ?_ (hnp := np_mExtras_value)
      refine go_virtX dWriting_addExtras_40 ok_mBytes_add im_mBytes_add se_mBytes_add qm_Writing_107 hW.2.1.1 (a_Bytes_add hW.2.1) (fun hx2 d2 q2 => ?_) (hnp := np_mBytes_add)
      have hW2 := hW.out q2.1 q2.2
      have s2 := hs.trans (q2.2.sub (by omega) (by omega))
      refine go_iinc dWriting_addExtras_43 rfl (congrArg (_ + ·) lit1) ?_
      refine go_goto (tgt := 21) dWriting_addExtras_46 ?_
      exact go_at (ih (i + 1) _ hx2 d2 (by omega) hW2 s2 hkk) rfl (by rw [nI_succ i]; rfl) rfl rfl
set_option maxHeartbeats 4000000 in
theorem l_Writing_addExtras {E : pmEv} {h0 : pmH} {z : Option Nat} {w x : Nat} {e : aExt} {R : aRow} {G : aRow} (hS : SA E h0 w) (hd : x + 4 ≤ w ∨ w + 5 ≤ x) (hX : ExA h0 x e) : ∀ (n : Nat) (k : Nat) (ω : aWr) (h : pmH) (d : Bool), k + n = e.2.2.2 → ω.1.2 + 52 * n ≤ 1115 → WrA h w ω → Sm h0 h w 5 → G = wXs e n k ω.1 → R = ω.2.1 → Go E (mWriting_addExtras, h0, 0, 0) 2 [some (.ref w), some (.ref x), some (.int (nI (k))), none] [] (h, z, d) 0 0 (RetX none (fun h' => (∃ o, WrA h' w (G, R, o)) ∧ Sm h0 h' w 5) z) := by
  intro n
  induction n with
  | zero =>
    intro k ω h d hk hn hW hs hG hR
    obtain ⟨_, ⟨_, _, _, _, _, _, hE⟩, hc⟩ := id hX
    have hz := fun k hk => (hE.2.1 k hk).2
    refine go_iload_n dWriting_addExtras_2 rfl ?_
    refine go_aload_n dWriting_addExtras_3 rfl ?_
    refine go_getf dWriting_addExtras_4 qf_Writing_146 (hX.sm hs (by omega)).1 rfl ?_
    refine go_icmp_ge (tgt := 59) dWriting_addExtras_7 (fun c1 => ?_) (fun c1 => ?_)
    · refine go_vret dWriting_addExtras_59 rfl ?_ (Nat.le_of_ble_eq_true rfl) (Nat.le_of_ble_eq_true rfl)
      exact retX ⟨⟨_, by rw [hG, hR, wXs]; exact hW⟩, hs⟩
    · exact absurd (nI_le (a := e.2.2.2) (b := k) (by omega) (by omega)) c1
  | succ n ih =>
    intro k ω h d hk hn hW hs hG hR
    obtain ⟨_, ⟨_, _, _, _, _, _, hE⟩, hc⟩ := id hX
    have hz := fun k hk => (hE.2.1 k hk).2
    refine go_iload_n dWriting_addExtras_2 rfl ?_
    refine go_aload_n dWriting_addExtras_3 rfl ?_
    refine go_getf dWriting_addExtras_4 qf_Writing_146 (hX.sm hs (by omega)).1 rfl ?_
    refine go_icmp_ge (tgt := 59) dWriting_addExtras_7 (fun c1 => ?_) (fun c1 => ?_)
    · exact absurd c1 (nI_ge (a := k) (b := e.2.2.2) (by omega) (by omega))
    · refine go_aload_n dWriting_addExtras_10 rfl ?_
      refine go_aload_n dWriting_addExtras_11 rfl ?_
      refine go_iload_n dWriting_addExtras_12 rfl ?_
      refine go_virtP dWriting_addExtras_13 ok_mExtras_lettersOf im_mExtras_lettersOf se_mExtras_lettersOf qm_Writing_149 (hX.sm hs (by omega)).1 (a_Extras_lettersOf (k := k) (by omega) (hX.sm hs (by omega))) ?_ (hnp := np_mExtras_lettersOf)
      refine go_virtX dWriting_addExtras_16 ok_mWriting_open im_mWriting_open se_mWriting_open qm_Writing_74 hW.1 (a_Writing_open (show ω.1.2 + 0 ≤ 1115 by omega) hW) (fun hx2 d2 q2 => ?_) (hnp := np_mWriting_open)
      have hW2 := q2.1
      have s2 := hs.trans q2.2
      refine go_iconst (v := 0) dWriting_addExtras_19 (by decide) ?_
      refine go_istore_n dWriting_addExtras_20 ?_
      have hz2 := hz k (by omega)
      have e1 := wAs_2 (fun i => e.2.2.1 (40 * k + i)) (e.2.1 k) 0 (opW ω.1 (e.1 k))
      have e2 : (opW ω.1 (e.1 k)).2 = ω.1.2 + 8 := rfl
      refine l_Writing_addExtras_in (G := G) (R := R) hS hd hX (k := k) (by omega) (e.2.1 k) 0 (opW ω.1 (e.1 k), ω.2.1, ω.1.2) hx2 d2 (by omega) hW2 s2 (fun hx3 dx3 hW3 hs3 => ?_)
      refine go_aload_n dWriting_addExtras_49 rfl ?_
      refine go_virtX dWriting_addExtras_50 ok_mWriting_close im_mWriting_close se_mWriting_close qm_Writing_77 hW3.1 (a_Writing_close (hS.sm hs3 (by omega)) (by show (wAs (fun i => e.2.2.1 (40 * k + i)) 0 (e.2.1 k) (opW ω.1 (e.1 k))).2 ≤ 1115; rw [e1, e2]; omega) (by show ω.1.2 + 8 ≤ (wAs (fun i => e.2.2.1 (40 * k + i)) 0 (e.2.1 k) (opW ω.1 (e.1 k))).2; rw [e1, e2]; omega) hW3) (fun hx4 d4 q4 => ?_) (hnp := np_mWriting_close)
      refine go_iinc dWriting_addExtras_53 rfl (congrArg (_ + ·) lit1) ?_
      refine go_goto (tgt := 2) dWriting_addExtras_56 ?_
      refine go_fg 3 ?_
      exact go_at (ih (k + 1) (clW (wAs (fun i => e.2.2.1 (40 * k + i)) 0 (e.2.1 k) (opW ω.1 (e.1 k))) ω.1.2, ω.2.1, ω.1.2) hx4 d4 (by omega) (by show (wAs (fun i => e.2.2.1 (40 * k + i)) 0 (e.2.1 k) (opW ω.1 (e.1 k))).2 + 4 + 52 * n ≤ 1115; rw [e1, e2]; omega) q4.1 (hs3.trans q4.2) (by rw [hG, wXs]) hR) rfl (by rw [nI_succ k]; rfl) rfl rfl
set_option maxHeartbeats 4000000 in
theorem a_Writing_addExtras {E : pmEv} {h : pmH} {z : Option Nat} {w x : Nat} {e : aExt} {ω : aWr} (hS : SA E h w) (hd : x + 4 ≤ w ∨ w + 5 ≤ x) (hn : ω.1.2 + 52 * e.2.2.2 ≤ 1115) (hX : ExA h x e) (hW : WrA h w ω) : Call E mWriting_addExtras [.ref w, .ref x] h z 0 0 (RetX none (fun h' => (∃ o, WrA h' w (wXs e e.2.2.2 0 ω.1, ω.2.1, o)) ∧ Sm h h' w 5) z) := by
  have hs : Sm h h w 5 := Sm.refl _ _ _
  refine call_of (L := [some (.ref w), some (.ref x), none, none]) ok_mWriting_addExtras (Nat.le_of_ble_eq_true rfl) ?_
  refine go_iconst (v := 0) dWriting_addExtras_0 (by decide) ?_
  refine go_istore_n dWriting_addExtras_1 ?_
  exact l_Writing_addExtras hS hd hX e.2.2.2 0 ω h false (by omega) hn hW hs rfl rfl
set_option maxHeartbeats 4000000 in
theorem l_Writing_run_end {E : pmEv} {h0 h : pmH} {z : Option Nat} {d : Bool} {w p : Nat} {t : Bool} {π : aPic} {ω : aWr} {G : aRow} (hS : SA E h0 w) (hd : p + 10 ≤ w ∨ w + 5 ≤ p) (hP : PiA h0 p t π) (hq : (pkC π).2 ≤ 588) (hb : ω.1.2 + (pkC π).2 + 120 ≤ 791) (hW : WrA h w ω) (hs : Sm h0 h w 5) (hG : G = enW π ω.1) : Go E (mWriting_run, h0, 0, 0) 51 [some (.ref w), some (.ref p)] [] (h, z, d) 0 0 (RetX none (fun h' => (∃ o, WrA h' w (G, pkC π, o)) ∧ Sm h0 h' w 5) z) := by
  have hx6 := hP.2.2.2.1.2.2
  have b1 := wRs_2 (pkC π) 10 0 ω.1
  have b2 := wXs_2 (ex_sz hP.2.2.2.1) π.2.2.2.2.2.2.2 0 (wRs (pkC π) 10 0 ω.1) (by omega)
  refine go_aload_n dWriting_run_51 rfl ?_
  refine go_aload_n dWriting_run_52 rfl ?_
  refine go_virtX dWriting_run_53 ok_mWriting_addRows im_mWriting_addRows se_mWriting_addRows qm_Writing_60 hW.1 (a_Writing_addRows (hS.sm hs (by omega)) hd hq (by omega) (hP.sm hs (by omega)) hW) (fun hx1 d1 q1 => ?_) (hnp := np_mWriting_addRows)
  obtain ⟨⟨o1, hW1⟩, t1⟩ := q1
  have s1 := hs.trans t1
  refine go_aload_n dWriting_run_56 rfl ?_
  refine go_aload_n dWriting_run_57 rfl ?_
  refine go_getf dWriting_run_58 qf_Writing_63 (hP.sm s1 (by omega)).1 rfl ?_
  refine go_virtX dWriting_run_61 ok_mWriting_addExtras im_mWriting_addExtras se_mWriting_addExtras qm_Writing_67 hW1.1 (a_Writing_addExtras (hS.sm s1 (by omega)) (by omega) (show (wRs (pkC π) 10 0 ω.1).2 + 52 * π.2.2.2.2.2.2.2 ≤ 1115 by omega) (hP.sm s1 (by omega)).2.2.2.1 hW1) (fun hx2 d2 q2 => ?_) (hnp := np_mWriting_addExtras)
  obtain ⟨⟨o2, hW2⟩, t2⟩ := q2
  have s2 := s1.trans t2
  refine go_aload_n dWriting_run_64 rfl ?_
  refine go_ldc dWriting_run_65 qc_Writing_73 ?_
  refine go_virtX dWriting_run_67 ok_mWriting_open im_mWriting_open se_mWriting_open qm_Writing_74 hW2.1 (a_Writing_open (show (wXs π.2.2.2.2 π.2.2.2.2.2.2.2 0 (wRs (pkC π) 10 0 ω.1)).2 + 0 ≤ 1115 by omega) hW2) (fun hx3 d3 q3 => ?_) (hnp := np_mWriting_open)
  have hW3 := q3.1
  have s3 := s2.trans q3.2
  refine go_aload_n dWriting_run_70 rfl ?_
  refine go_virtX dWriting_run_71 ok_mWriting_close im_mWriting_close se_mWriting_close qm_Writing_77 hW3.1 (a_Writing_close (hS.sm s3 (by omega)) (show (wXs π.2.2.2.2 π.2.2.2.2.2.2.2 0 (wRs (pkC π) 10 0 ω.1)).2 + 8 ≤ 1115 by omega) (show (wXs π.2.2.2.2 π.2.2.2.2.2.2.2 0 (wRs (pkC π) 10 0 ω.1)).2 + 0 + 8 ≤ (wXs π.2.2.2.2 π.2.2.2.2.2.2.2 0 (wRs (pkC π) 10 0 ω.1)).2 + 8 by omega) hW3) (fun hx4 d4 q4 => ?_) (hnp := np_mWriting_close)
  have hW4 := q4.1
  have s4 := s3.trans q4.2
  refine go_vret dWriting_run_74 rfl ?_ (Nat.le_of_ble_eq_true rfl) (Nat.le_of_ble_eq_true rfl)
  exact retX ⟨⟨_, by rw [hG, enW]; exact hW4⟩, s4⟩
set_option maxHeartbeats 4000000 in
theorem a_Writing_run {E : pmEv} {h : pmH} {z : Option Nat} {w p : Nat} {t : Bool} {π : aPic} {ω : aWr} (hS : SA E h w) (hd : p + 10 ≤ w ∨ w + 5 ≤ p) (hq : (pkC π).2 ≤ 588) (hq3 : π.1.2.2.2 = 3 → (pkC π).2 ≤ 156) (hP : PiA h p t π) (hW : WrA h w ω) : Call E mWriting_run [.ref w, .ref p] h z 0 0 (RetX none (fun h' => (∃ o, WrA h' w (wrAll π ω.1, pkC π, o)) ∧ Sm h h' w 5) z) := by
  have hs : Sm h h w 5 := Sm.refl _ _ _
  have hc64 := hP.2.1.2.2
  have hkk := hP.2.2.2.2.2.k
  have b3 : (w3 π ω.1).2 ≤ 83 := (tgW_2 π.2.2.2.1 (w2 π ω.1)).2
  have b4 := plW_2 π.2.2.1 (w3 π ω.1)
  have b5 := alW_2 π.2.2.1 (plW π.2.2.1 (w3 π ω.1))
  have k3 : nI π.1.2.2.2 = 3 ↔ π.1.2.2.2 = 3 := nI_inj (b := 3) (by omega) (by omega)
  refine call_of (L := [some (.ref w), some (.ref p)]) ok_mWriting_run (Nat.le_of_ble_eq_true rfl) ?_
  refine go_aload_n dWriting_run_0 rfl ?_
  refine go_getf dWriting_run_1 qf_Writing_14 hW.1 rfl ?_
  refine go_virtX dWriting_run_4 ok_mBytes_clear im_mBytes_clear se_mBytes_clear qm_Writing_23 hW.2.1.1 (a_Bytes_clear hW.2.1) (fun hx1 d1 q1 => ?_) (hnp := np_mBytes_clear)
  have hW1 := hW.out q1.1 q1.2
  have s1 := hs.trans (q1.2.sub (by omega) (by omega))
  refine go_aload_n dWriting_run_7 rfl ?_
  refine go_getf dWriting_run_8 qf_Writing_14 hW1.1 rfl ?_
  refine go_virtX dWriting_run_11 ok_mBytes_addBeginning im_mBytes_addBeginning se_mBytes_addBeginning qm_Writing_26 hW1.2.1.1 (a_Bytes_addBeginning ((hS.sm s1 (by omega)).le (by omega)) hW1.2.1) (fun hx2 d2 q2 => ?_) (hnp := np_mBytes_addBeginning)
  have hW2 := hW1.out q2.1 q2.2
  have s2 := s1.trans (q2.2.sub (by omega) (by omega))
  refine go_aload_n dWriting_run_14 rfl ?_
  refine go_aload_n dWriting_run_15 rfl ?_
  refine go_virtX dWriting_run_16 ok_mWriting_addHead im_mWriting_addHead se_mWriting_addHead qm_Writing_29 hW2.1 (a_Writing_addHead (hS.sm s2 (by omega)) hd (show 8 + 25 ≤ 1115 by omega) (hP.sm s2 (by omega)) hW2) (fun hx3 d3 q3 => ?_) (hnp := np_mWriting_addHead)
  obtain ⟨⟨o3, hW3⟩, t3⟩ := q3
  have s3 := s2.trans t3
  refine go_aload_n dWriting_run_19 rfl ?_
  refine go_aload_n dWriting_run_20 rfl ?_
  refine go_getf dWriting_run_21 qf_Writing_33 (hP.sm s3 (by omega)).1 rfl ?_
  refine go_virtX dWriting_run_24 ok_mWriting_addTags im_mWriting_addTags se_mWriting_addTags qm_Writing_39 hW3.1 (a_Writing_addTags (hS.sm s3 (by omega)) (by omega) (show 33 + 50 ≤ 1115 by omega) (hP.sm s3 (by omega)).2.2.1 hW3) (fun hx4 d4 q4 => ?_) (hnp := np_mWriting_addTags)
  obtain ⟨⟨o4, hW4⟩, t4⟩ := q4
  have s4 := s3.trans t4
  refine go_aload_n dWriting_run_27 rfl ?_
  refine go_getf dWriting_run_28 qf_Writing_43 (hP.sm s4 (by omega)).1 rfl ?_
  refine go_iconst (v := 3) dWriting_run_31 (by decide) ?_
  refine go_icmp_ne (tgt := 51) dWriting_run_32 (fun c5 => ?_) (fun c5 => ?_)
  · exact l_Writing_run_end hS hd hP hq (show (w3 π ω.1).2 + (pkC π).2 + 120 ≤ 791 by omega) hW4 s4 (by rw [wrAll, w4, if_neg (fun e => c5 (k3.mpr e))]; rfl)
  · refine go_aload_n dWriting_run_35 rfl ?_
    refine go_aload_n dWriting_run_36 rfl ?_
    refine go_getf dWriting_run_37 qf_Writing_49 (hP.sm s4 (by omega)).1 rfl ?_
    refine go_virtX dWriting_run_40 ok_mWriting_addPalette im_mWriting_addPalette se_mWriting_addPalette qm_Writing_53 hW4.1 (a_Writing_addPalette (hS.sm s4 (by omega)) (by omega) (show (w3 π ω.1).2 + 3 * π.2.2.1.2 + 12 ≤ 1115 by omega) (hP.sm s4 (by omega)).2.1 hW4) (fun hx6 d6 q6 => ?_) (hnp := np_mWriting_addPalette)
    obtain ⟨⟨o6, hW6⟩, t6⟩ := q6
    have s6 := s4.trans t6
    refine go_aload_n dWriting_run_43 rfl ?_
    refine go_aload_n dWriting_run_44 rfl ?_
    refine go_getf dWriting_run_45 qf_Writing_49 (hP.sm s6 (by omega)).1 rfl ?_
    refine go_virtX dWriting_run_48 ok_mWriting_addAlphas im_mWriting_addAlphas se_mWriting_addAlphas qm_Writing_57 hW6.1 (a_Writing_addAlphas (hS.sm s6 (by omega)) (by omega) (show (plW π.2.2.1 (w3 π ω.1)).2 + π.2.2.1.2 + 12 ≤ 1115 by omega) (hP.sm s6 (by omega)).2.1 hW6) (fun hx7 d7 q7 => ?_) (hnp := np_mWriting_addAlphas)
    obtain ⟨⟨o7, hW7⟩, t7⟩ := q7
    have s7 := s6.trans t7
    have hq4 := hq3 (k3.mp c5)
    exact l_Writing_run_end hS hd hP hq (show (alW π.2.2.1 (plW π.2.2.1 (w3 π ω.1))).2 + (pkC π).2 + 120 ≤ 791 by omega) hW7 s7 (by rw [wrAll, w4, if_pos (k3.mp c5)]; rfl)
