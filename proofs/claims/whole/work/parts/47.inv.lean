/-! ===== the calls keep what may be ===== -/
theorem AllB.cl0 {p : aRow} {a : Nat} (h : AllB p) : AllB (clW p a) := AllB.num ((((h.s (byt_24 _)).s (byt_and _)).s (byt_and _)).s (byt_and _))
theorem AllB.tg {τ : Nat → Int32} {p : aRow} (h1 : τ 1 = -1 ∨ byt (τ 1)) (h : AllB p) : AllB (tgW τ p) := by
  have a0 : AllB (tgW0 τ p) := by
    unfold tgW0
    by_cases e : τ 0 = -1
    · rw [if_pos e]; exact h
    · rw [if_neg e]; exact h.op.num.cl0
  have a1 : AllB (tgW1 τ (tgW0 τ p)) := by
    unfold tgW1
    by_cases e : τ 1 = -1
    · rw [if_pos e]; exact a0
    · rw [if_neg e]; exact (a0.op.add (h1.resolve_left e)).cl0
  unfold tgW tgW2
  by_cases e : τ 2 = -1
  · rw [if_pos e]; exact a1
  · rw [if_neg e]; exact (a1.op.num.num.add ⟨by decide, by decide⟩).cl0
theorem AllB.pl {f : Nat → Int32} {c : Nat} (hf : ∀ j, j < 4 * c → byt (f j)) : ∀ (n k : Nat) (p : aRow), k + n ≤ c → AllB p → AllB (wPl f n k p) := by
  intro n
  induction n with
  | zero => intro k p _ h; exact h
  | succ n ih =>
    intro k p hk h
    exact ih (k + 1) _ (by omega) (AllB.as 3 0 _ h fun j _ h2 => hf _ (by omega))
theorem AllB.rs {q : aRow} (hq : AllB q) : ∀ (n a : Nat) (p : aRow), AllB p → AllB (wRs q n a p) := by
  intro n
  induction n with
  | zero => intro a p h; exact h
  | succ n ih =>
    intro a p h
    unfold wRs
    by_cases e : a < q.2
    · rw [if_pos e]
      exact ih _ _ (AllB.cl0 (AllB.as _ _ _ h.op fun j h1 h2 => hq j (by omega)))
    · rw [if_neg e]; exact h
theorem AllB.xs {e : aExt} {c : Nat} (he : ∀ k, k < c → ∀ i, i < e.2.1 k → byt (e.2.2.1 (40 * k + i))) : ∀ (n k : Nat) (p : aRow), k + n ≤ c → AllB p → AllB (wXs e n k p) := by
  intro n
  induction n with
  | zero => intro k p _ h; exact h
  | succ n ih =>
    intro k p hk h
    exact ih (k + 1) _ (by omega) (AllB.cl0 (AllB.as _ _ _ h.op fun j _ h2 => he k (by omega) j (by omega)))
theorem alN_le2 (f : Nat → Int32) (n : Nat) : alN f n ≤ n := alN_le f n
theorem AllB.wr {π : aPic} {p : aRow} (hv : IvP π) : AllB (wrAll π p) := by
  have hd := hv.1
  have hb := hd.b
  have hk := hd.k
  have hm : AllB (wAs bM 0 8 (p.1, 0)) := AllB.as 8 0 _ (fun j hj => absurd hj (Nat.not_lt_zero _)) fun j _ h2 => by
    have q : ∀ j : Fin 8, byt (bM j.1) := by decide
    exact q ⟨j, by omega⟩
  have h2 : AllB (w2 π p) := ((((((hm.op.num.num.add (byt_n (by omega))).add (byt_n (by omega))).add ⟨by decide, by decide⟩).add ⟨by decide, by decide⟩).add ⟨by decide, by decide⟩)).cl0
  have h3 : AllB (w3 π p) := AllB.tg hv.2.2.2.2 h2
  have h4 : AllB (w4 π p) := by
    unfold w4
    by_cases e : π.1.2.2.2 = 3
    · rw [if_pos e]
      have a1 : AllB (plW π.2.2.1 (w3 π p)) := AllB.cl0 (AllB.pl hv.2.1.2.2 _ 0 _ (by omega) h3.op)
      unfold alW
      by_cases e2 : alN π.2.2.1.1 π.2.2.1.2 = 0
      · rw [if_pos e2]; exact a1
      · rw [if_neg e2]
        have := alN_le π.2.2.1.1 π.2.2.1.2
        exact AllB.cl0 (AllB.as _ _ _ a1.op fun j _ h2 => hv.2.1.2.2 _ (by omega))
    · rw [if_neg e]; exact h3
  have hq : AllB (pkC π) := fun j hj => by
    rw [pkC_2 hd] at hj
    rw [pkC_v hd (smB_of hv) hj]
    exact byt_n (rwB_lt _ _ _)
  exact AllB.cl0 (AllB.op (AllB.xs (fun k hk => (hv.2.2.1.2 k hk).2) _ 0 _ (by omega) (AllB.rs hq _ _ _ h4)))
/-- chunks of others that may be -/
def ExG (e : aExt) (k : Nat) : Prop := exOk (e.1 k) ∧ e.2.1 k ≤ 40 ∧ ∀ i, i < e.2.1 k → byt (e.2.2.1 (40 * k + i))
theorem ExG.mv {e : aExt} {k t j : Nat} (ht : t ≤ k) (hj : j ≠ t) (h : ExG e j) : ExG (exMv e k t) j := by
  show exOk (upd e.1 t (e.1 k) j) ∧ (if j = t then e.2.1 k else e.2.1 j) ≤ 40 ∧ ∀ i, i < (if j = t then e.2.1 k else e.2.1 j) → byt (va_cpy e.2.2.1 e.2.2.1 (40 * k) (40 * t) 40 (40 * j + i))
  rw [pk_un hj, if_neg hj]
  exact ⟨h.1, h.2.1, fun i hi => by rw [pk_cpy_out (by have := h.2.1; omega)]; exact h.2.2 i hi⟩
theorem ExG.mt {e : aExt} {k t : Nat} (h : ExG e k) : ExG (exMv e k t) t := by
  show exOk (upd e.1 t (e.1 k) t) ∧ (if t = t then e.2.1 k else e.2.1 t) ≤ 40 ∧ ∀ i, i < (if t = t then e.2.1 k else e.2.1 t) → byt (va_cpy e.2.2.1 e.2.2.1 (40 * k) (40 * t) 40 (40 * t + i))
  rw [pk_us, if_pos rfl]
  exact ⟨h.1, h.2.1, fun i hi => by
    have := h.2.1
    rw [pk_cpy_in (by omega) (by omega), show 40 * k + (40 * t + i - 40 * t) = 40 * k + i by omega]
    exact h.2.2 i hi⟩
theorem exSafe_g : ∀ (n k t : Nat) (e : aExt), t ≤ k → (∀ j, j < t ∨ (k ≤ j ∧ j < k + n) → ExG e j) → (exSafe n k t e).2.2.2 ≤ t + n ∧ ∀ j, j < (exSafe n k t e).2.2.2 → ExG (exSafe n k t e) j := by
  intro n
  induction n with
  | zero => intro k t e _ h; exact ⟨Nat.le_refl _, fun j hj => h j (Or.inl hj)⟩
  | succ n ih =>
    intro k t e ht h
    rw [exSafe]
    by_cases c : 65 ≤ ltr (e.1 k) 3 ∧ ltr (e.1 k) 3 ≤ 90
    · rw [if_pos c]
      obtain ⟨h1, h2⟩ := ih (k + 1) t e (by omega) (fun j hj => h j (by omega))
      exact ⟨by omega, h2⟩
    · rw [if_neg c]
      obtain ⟨h1, h2⟩ := ih (k + 1) (t + 1) (exMv e k t) (by omega) (fun j hj => by
        by_cases q : j = t
        · rw [q]; exact ExG.mt (h k (by omega))
        · exact ExG.mv ht q (h j (by omega)))
      exact ⟨by omega, h2⟩
theorem IvP.safe {π : aPic} (h : IvP π) (hz : ∀ k, k < π.2.2.2.2.2.2.2 → π.2.2.2.2.2.1 k ≤ 40) : IvP (piSafe π) := by
  obtain ⟨h1, h2⟩ := exSafe_g π.2.2.2.2.2.2.2 0 0 π.2.2.2.2 (Nat.le_refl _) (fun j hj => ⟨(h.2.2.1.2 j (by omega)).1, hz j (by omega), (h.2.2.1.2 j (by omega)).2⟩)
  have := h.2.2.1.1
  exact ⟨h.1, h.2.1, ⟨by show (exSafe _ _ _ _).2.2.2 ≤ 6; omega, fun k hk => ⟨(h2 k hk).1, (h2 k hk).2.2⟩⟩, h.2.2.2⟩
theorem smJ.of {π : aPic} {v : Int32} (h : smOk π v) : smJ π v := ⟨h.1, h.2.1, h.2.2.elim Or.inl fun q => Or.inr (Or.inr q.2)⟩
theorem gr_pos {b : Nat} (h : b ≤ 8) : (0 : Int32) ≤ gr (nI b) := by
  have q : ∀ b : Fin 9, (0 : Int32) ≤ gr (nI b.1) := by decide
  exact q ⟨b, by omega⟩
theorem IvP.new {d : Nat × Nat × Nat × Nat} {π : aPic} (ho : okN d) : IvP (piNew d π) := ⟨ho, ⟨Nat.zero_le _, fun _ => Nat.zero_le _, fun j hj => absurd hj (Nat.not_lt_zero _)⟩, ⟨Nat.zero_le _, fun k hk => absurd hk (Nat.not_lt_zero _)⟩, fun x _ y _ u _ => ⟨by show (0 : Int32) ≤ 0; decide, gr_pos ho.b.2, Or.inr (Or.inl rfl)⟩, Or.inl rfl⟩
def hzA (α : aPF) : Prop := ∀ k, k < α.1.2.2.2.2.2.2.2.2 → α.1.2.2.2.2.2.2.1 k ≤ 40
theorem RR.hz {g : Nat → Int32} {A : Nat → Nat → Int32} {α : aPF} (hr : RR g A α) : hzA α := fun k hk => (hr.1.2.2.2.2.2.1 k hk).2
theorem IvA.own {α : aPF} {t : Bool} {π : aPic} (hv : IvA α) (h : IvP π) : IvA ((t, π), α.2) := ⟨h, hv.2⟩
theorem iv_hd {α : aPF} {a1 a2 a3 a4 : Int32} (hv : IvA α) : IvA (hdF α a1 a2 a3 a4).2 := by
  unfold hdF
  by_cases e : okHead a1 a2 a3 a4
  · rw [if_pos e]
    obtain ⟨w, hh, b, k, ho, e1, e2, e3, e4⟩ := okHead_n e
    have h1 := ho.w
    have h2 := ho.b
    have h3 := ho.k
    simp only at h1 h2 h3
    rw [e1, e2, e3, e4, nI_clamp (by omega), nI_clamp (by omega), nI_clamp (by omega), nI_clamp (by omega)]
    exact hv.own (IvP.new ho)
  · rw [if_neg e]; exact hv
theorem plA_b {p : aRow} {x y u w : Int32} (h : ∀ j, j < 4 * p.2 → byt (p.1 j)) (hx : byt x) (hy : byt y) (hu : byt u) (hw : byt w) : ∀ j, j < 4 * (plA p x y u w).2 → byt ((plA p x y u w).1 j) := fun j hj => by
  have hj' : j < 4 * (p.2 + 1) := hj
  show byt (upd (upd (upd (upd p.1 (4 * p.2) _) (4 * p.2 + 1) _) (4 * p.2 + 2) _) (4 * p.2 + 3) _ j)
  by_cases e3 : j = 4 * p.2 + 3
  · subst e3; rw [pk_us]; exact hw
  · rw [pk_un e3]
    by_cases e2 : j = 4 * p.2 + 2
    · subst e2; rw [pk_us]; exact hu
    · rw [pk_un e2]
      by_cases e1 : j = 4 * p.2 + 1
      · subst e1; rw [pk_us]; exact hy
      · rw [pk_un e1]
        by_cases e0 : j = 4 * p.2
        · subst e0; rw [pk_us]; exact hx
        · rw [pk_un e0]; exact h j (by omega)
theorem iv_co {α : aPF} {a1 a2 a3 a4 : Int32} (hv : IvA α) (hz : hzA α) : IvA (coF α a1 a2 a3 a4).2 := by
  unfold coF
  by_cases e1 : α.1.1 = true ∧ nI α.1.2.1.2.2.2 = 3
  · rw [if_neg (fun q => q e1)]
    by_cases e2 : byt a1 ∧ byt a2 ∧ byt a3 ∧ byt a4
    · rw [if_neg (fun q => q e2)]
      by_cases e3 : min 64 (2 ^ α.1.2.1.2.2.1) ≤ α.1.2.2.2.1.2
      · rw [if_pos e3]; exact hv
      · rw [if_neg e3]
        have hm := Nat.min_le_left 64 (2 ^ α.1.2.1.2.2.1)
        obtain ⟨h1, h2, h3, h4, h5⟩ := hv.1
        refine hv.own (IvP.safe ⟨h1, ⟨show α.1.2.2.2.1.2 + 1 ≤ 64 by omega, fun _ => show α.1.2.2.2.1.2 + 1 ≤ min 64 (2 ^ α.1.2.1.2.2.1) by omega, plA_b h2.2.2 e2.1 e2.2.1 e2.2.2.1 e2.2.2.2⟩, h3, fun x hx y hy u hu => ?_, h5⟩ hz)
        obtain ⟨q1, q2, q3⟩ := h4 x hx y hy u hu
        refine ⟨q1, q2, q3.elim Or.inl fun q => Or.inr (q.elim Or.inl fun q => Or.inr ?_)⟩
        exact Int32.lt_of_lt_of_le q (nI_le (a := α.1.2.2.2.1.2) (b := α.1.2.2.2.1.2 + 1) (by omega) (by omega))
    · rw [if_pos e2]; exact hv
  · rw [if_pos e1]; exact hv
theorem iv_pu {α : aPF} {a1 a2 a3 a4 : Int32} (hv : IvA α) (hz : hzA α) : IvA (puF α a1 a2 a3 a4).2 := by
  unfold puF
  by_cases e1 : α.1.1 = true
  · rw [if_neg (fun q => q e1)]
    by_cases e2 : pHas α.1.2.1 a1 a2 a3
    · rw [if_neg (fun q => q e2)]
      by_cases e3 : smOk α.1.2 a4
      · rw [if_neg (fun q => q e3)]
        by_cases e4 : a4 = α.1.2.2.1 (poN a1 a2 a3)
        · rw [if_pos e4]; exact hv
        · rw [if_neg e4]
          obtain ⟨h1, h2, h3, h4, h5⟩ := hv.1
          refine hv.own (IvP.safe ⟨h1, h2, h3, fun x hx y hy u hu => ?_, h5⟩ hz)
          show smJ α.1.2 (upd α.1.2.2.1 (poN a1 a2 a3) a4 ((y * 12 + x) * 4 + u))
          by_cases q : (y * 12 + x) * 4 + u = poN a1 a2 a3
          · rw [q, pk_us]; exact smJ.of e3
          · rw [pk_un q]; exact h4 x hx y hy u hu
      · rw [if_pos e3]; exact hv
    · rw [if_pos e2]; exact hv
  · rw [if_pos e1]; exact hv
theorem iv_tg {α : aPF} {a1 a2 : Int32} (hv : IvA α) : IvA (tgF α a1 a2).2 := by
  unfold tgF
  by_cases e1 : α.1.1 = true
  · rw [if_neg (fun q => q e1)]
    by_cases e2 : 0 ≤ a1 ∧ a1 < 3
    · rw [if_neg (fun q => q e2)]
      by_cases e3 : ¬ a2 = -1 ∧ ¬ tgOk a1 a2
      · rw [if_pos e3]; exact hv
      · rw [if_neg e3]
        obtain ⟨h1, h2, h3, h4, h5⟩ := hv.1
        refine hv.own ⟨h1, h2, h3, h4, ?_⟩
        show upd α.1.2.2.2.2.1 a1.toNatClampNeg a2 1 = -1 ∨ byt (upd α.1.2.2.2.2.1 a1.toNatClampNeg a2 1)
        obtain ⟨k, hk, rfl⟩ := has_ex (c := 3) (by omega) e2
        rw [nI_clamp (by omega)]
        by_cases q : 1 = k
        · subst q
          rw [pk_us]
          by_cases q2 : a2 = -1
          · exact Or.inl q2
          · have q3 : tgOk (nI 1) a2 := Decidable.not_not.mp fun x => e3 ⟨q2, x⟩
            rcases q3 with q3 | q3
            · exact Or.inr ⟨q3.2.1, Int32.le_trans q3.2.2 (by decide)⟩
            · exact absurd rfl q3.1
        · rw [pk_un q]; exact h5
    · rw [if_pos e2]; exact hv
  · rw [if_pos e1]; exact hv
theorem iv_ex {α : aPF} {a1 : Int32} (hv : IvA α) : IvA (exF α a1).2 := by
  unfold exF
  by_cases e1 : α.1.1 = true
  · rw [if_neg (fun q => q e1)]
    by_cases e2 : exOk a1
    · rw [if_neg (fun q => q e2)]
      by_cases e3 : 6 ≤ α.1.2.2.2.2.2.2.2.2
      · rw [if_pos e3]; exact hv
      · rw [if_neg e3]
        obtain ⟨h1, h2, h3, h4, h5⟩ := hv.1
        refine hv.own ⟨h1, h2, ⟨show α.1.2.2.2.2.2.2.2.2 + 1 ≤ 6 by omega, fun k hk => ?_⟩, h4, h5⟩
        have hk' : k < α.1.2.2.2.2.2.2.2.2 + 1 := hk
        show exOk (upd α.1.2.2.2.2.2.1 α.1.2.2.2.2.2.2.2.2 a1 k) ∧ ∀ i, i < updN α.1.2.2.2.2.2.2.1 α.1.2.2.2.2.2.2.2.2 0 k → byt (α.1.2.2.2.2.2.2.2.1 (40 * k + i))
        unfold updN
        by_cases q : k = α.1.2.2.2.2.2.2.2.2
        · subst q
          rw [pk_us, if_pos rfl]
          exact ⟨e2, fun i hi => absurd hi (Nat.not_lt_zero _)⟩
        · rw [pk_un q, if_neg q]
          exact h3.2 k (by omega)
    · rw [if_pos e2]; exact hv
  · rw [if_pos e1]; exact hv
theorem iv_bo {α : aPF} {a1 a2 : Int32} (hv : IvA α) (hz : hzA α) : IvA (boF α a1 a2).2 := by
  unfold boF
  by_cases e1 : α.1.1 = true
  · rw [if_neg (fun q => q e1)]
    by_cases e2 : 0 ≤ a1 ∧ a1 < nI α.1.2.2.2.2.2.2.2.2
    · rw [if_neg (fun q => q e2)]
      by_cases e3 : byt a2
      · rw [if_neg (fun q => q e3)]
        by_cases e4 : 40 ≤ α.1.2.2.2.2.2.2.1 a1.toNatClampNeg
        · rw [if_pos e4]; exact hv
        · rw [if_neg e4]
          obtain ⟨h1, h2, h3, h4, h5⟩ := hv.1
          have h6 := h3.1
          obtain ⟨j, hj, rfl⟩ := has_ex (by omega) e2
          rw [nI_clamp (by omega)] at e4 ⊢
          refine hv.own ⟨h1, h2, ⟨h3.1, fun k hk => ⟨(h3.2 k hk).1, fun i hi => ?_⟩⟩, h4, h5⟩
          have hi' : i < updN α.1.2.2.2.2.2.2.1 j (α.1.2.2.2.2.2.2.1 j + 1) k := hi
          have hk' : k < α.1.2.2.2.2.2.2.2.2 := hk
          show byt (upd α.1.2.2.2.2.2.2.2.1 (40 * j + α.1.2.2.2.2.2.2.1 j) a2 (40 * k + i))
          unfold updN at hi'
          by_cases q : k = j
          · subst q
            rw [if_pos rfl] at hi'
            by_cases q2 : i = α.1.2.2.2.2.2.2.1 k
            · subst q2; rw [pk_us]; exact e3
            · rw [pk_un (by omega)]; exact (h3.2 k hk).2 i (by omega)
          · rw [if_neg q] at hi'
            have := hz k hk'
            rw [pk_un (by omega)]
            exact (h3.2 k hk).2 i hi'
      · rw [if_pos e3]; exact hv
    · rw [if_pos e2]; exact hv
  · rw [if_pos e1]; exact hv
theorem iv_wr {α : aPF} (hv : IvA α) (hz : hzA α) : IvA (wrF α).2 := by
  unfold wrF
  by_cases e1 : α.1.1 = true
  · rw [if_neg (fun q => q e1)]
    by_cases e2 : nI α.1.2.1.2.2.2 = 3 ∧ α.1.2.2.2.1.2 = 0
    · rw [if_pos e2]; exact hv
    · rw [if_neg e2]
      exact ⟨hv.1, ⟨wrAll_2 hv.1.2.1.1 hv.1.2.2.1.1 (pkC_le hv.1.1).1 (pkC_le hv.1.1).2 hz _, AllB.wr hv.1⟩, hv.2.2⟩
  · rw [if_pos e1]; exact hv
theorem iv_fe {α : aPF} {a1 : Int32} (hv : IvA α) : IvA (feF α a1).2 := by
  unfold feF
  by_cases e1 : byt a1
  · rw [if_neg (fun q => q e1)]
    by_cases e2 : (1 : Int32) ≤ 2000 - nI α.2.2.1.2
    · rw [if_neg (fun q => q e2)]
      have hf := hv.2.2.1.1
      refine ⟨hv.1, hv.2.1, ⟨?_, AllB.add hv.2.2.1.2 e1⟩, hv.2.2.2⟩
      exact room_n (m := 1) (by omega) hf e2
    · rw [if_pos e2]; exact hv
  · rw [if_pos e1]; exact hv
theorem iv_pa {α : aPF} {a1 a2 : Int32} (hv : IvA α) : IvA (paF α a1 a2).2 := by
  unfold paF
  by_cases e1 : 0 ≤ a1 ∧ a1 < nI α.2.1.2
  · rw [if_neg (fun q => q e1)]
    by_cases e2 : a2 < 0
    · rw [if_pos e2]; exact hv
    · rw [if_neg e2]
      by_cases e3 : 2000 < α.2.2.1.2 + min a2.toNatClampNeg (α.2.1.2 - a1.toNatClampNeg)
      · rw [if_pos e3]; exact hv
      · rw [if_neg e3]
        have hw := hv.2.1.1
        obtain ⟨j, hj, rfl⟩ := has_ex (by omega) e1
        rw [nI_clamp (by omega)] at e3 ⊢
        refine ⟨hv.1, hv.2.1, ⟨?_, AllB.as _ _ _ hv.2.2.1.2 fun k h1 h2 => hv.2.1.2 k (by omega)⟩, hv.2.2.2⟩
        show (wAs _ _ _ _).2 ≤ 2000
        rw [wAs_2]
        omega
  · rw [if_pos e1]; exact hv
theorem AllB.mend {p : aRow} {q : Option (Nat × Nat)} (h : AllB p) : AllB (mendBy p q) := by
  cases q with
  | none => exact h
  | some q => exact (((h.s (byt_24 _)).s (byt_and _)).s (byt_and _)).s (byt_and _)
theorem iv_al {α : aPF} {a1 a2 a3 : Int32} (hv : IvA α) : IvA (alF α a1 a2 a3).2 := by
  unfold alF
  by_cases e1 : 0 ≤ a1 ∧ a1 < nI α.2.2.1.2
  · rw [if_neg (fun q => q e1)]
    by_cases e2 : byt a2
    · rw [if_neg (fun q => q e2)]
      by_cases e3 : a3 = 0
      · rw [if_pos e3]
        exact ⟨hv.1, hv.2.1, ⟨hv.2.2.1.1, AllB.s hv.2.2.1.2 e2⟩, hv.2.2.2⟩
      · rw [if_neg e3]
        exact ⟨hv.1, hv.2.1, ⟨by show (mendBy _ _).2 ≤ 2000; rw [mendBy_2]; exact hv.2.2.1.1, AllB.mend (AllB.s hv.2.2.1.2 e2)⟩, hv.2.2.2⟩
    · rw [if_pos e2]; exact hv
  · rw [if_pos e1]; exact hv
theorem iv_ta {α : aPF} (hv : IvA α) : IvA (taF α).2 := by
  unfold taF
  by_cases e : α.2.2.2.2.2 0 = 0
  · rw [if_pos e]; exact hv
  · rw [if_neg e]; exact ⟨(hv.2.2.2 e).1, hv.2⟩
theorem iv_dr {α : aPF} (hv : IvA α) : IvA (drF α).2 := ⟨hv.1, hv.2.1, ⟨Nat.zero_le _, fun j hj => absurd hj (Nat.not_lt_zero _)⟩, hv.2.2.2⟩
theorem iv_ba {α : aPF} {a1 : Int32} (hv : IvA α) : IvA (baF α a1).2 := by
  unfold baF
  split <;> exact hv
theorem iv_at {α : aPF} {a1 a2 a3 : Int32} (hv : IvA α) : IvA (atF α a1 a2 a3).2 := by
  unfold atF
  repeat' split
  all_goals exact hv
theorem iv_fo {α : aPF} {a1 : Int32} (hv : IvA α) : IvA (foF α a1).2 := by
  unfold foF
  split <;> exact hv
theorem iv_ey {α : aPF} {a1 a2 : Int32} (hv : IvA α) : IvA (eyF α a1 a2).2 := by
  unfold eyF
  repeat' split
  all_goals exact hv
theorem iv_un {α : aPF} {a1 a2 : Int32} (hv : IvA α) : IvA (unF α a1 a2).2 := by
  unfold unF
  repeat' split
  all_goals exact hv
theorem iv_to {α : aPF} {a1 : Int32} (hv : IvA α) : IvA (toF α a1).2 := hv
theorem IvP.o0 : IvP pi0 := ⟨by unfold okN pi0; decide, ⟨by decide, fun q => absurd q (by decide), fun j hj => absurd hj (Nat.not_lt_zero _)⟩, ⟨by decide, fun k hk => absurd hk (Nat.not_lt_zero _)⟩, fun x _ y _ u _ => ⟨by show (0 : Int32) ≤ 0; decide, gr_pos (b := 8) (by omega), Or.inr (Or.inl rfl)⟩, Or.inl rfl⟩
theorem IvA.o0 : IvA pf0 := ⟨IvP.o0, ⟨by decide, fun j hj => absurd hj (Nat.not_lt_zero _)⟩, ⟨by decide, fun j hj => absurd hj (Nat.not_lt_zero _)⟩, fun q => absurd rfl q⟩
theorem IvP.kind {π : aPic} {k : Nat} (h : IvP π) (ho : okN (π.1.1, π.1.2.1, π.1.2.2.1, k)) (hc : chN k ≤ chN π.1.2.2.2) (h3 : ¬ k = 3) (h6 : k ≤ 6) : IvP ((π.1.1, π.1.2.1, π.1.2.2.1, k), π.2) := by
  obtain ⟨h1, h2, h3', h4, h5⟩ := h
  refine ⟨ho, ⟨h2.1, fun q => absurd q h3, h2.2.2⟩, h3', fun x hx y hy u hu => ?_, h5⟩
  obtain ⟨q1, q2, -⟩ := h4 x hx y hy u (Nat.lt_of_lt_of_le hu hc)
  exact ⟨q1, q2, Or.inl fun q => h3 ((nI_inj (b := 3) (show k < 2 ^ 31 by omega) (by omega)).mp q)⟩
theorem okN.to {d : Nat × Nat × Nat × Nat} {k : Nat} (h : okN d) (hd : d.2.2.2 = 2 ∨ d.2.2.2 = 4 ∨ d.2.2.2 = 6) (hk : k = 0 ∨ k = 2) : okN (d.1, d.2.1, d.2.2.1, k) := by
  obtain ⟨h1, h2, h3⟩ := h
  refine ⟨h1, h2, ?_⟩
  have h8 : d.2.2.1 = 8 := by
    rcases h3 with h3 | h3
    · omega
    · exact h3.2
  rcases hk with rfl | rfl
  · exact Or.inl ⟨Or.inl rfl, Or.inr (Or.inr (Or.inr h8))⟩
  · exact Or.inr ⟨Or.inl rfl, h8⟩
theorem IvP.A {π : aPic} (h : IvP π) : IvP (lsA π) := by
  unfold lsA
  by_cases e : π.1.2.2.2 = 6 ∧ opq π
  · rw [if_pos e]
    exact h.kind (h.1.to (Or.inr (Or.inr e.1)) (Or.inr rfl)) (by rw [e.1]; decide) (by decide) (by decide)
  · rw [if_neg e]
    by_cases e2 : π.1.2.2.2 = 4 ∧ opq π
    · rw [if_pos e2]
      exact h.kind (h.1.to (Or.inr (Or.inl e2.1)) (Or.inl rfl)) (by rw [e2.1]; decide) (by decide) (by decide)
    · rw [if_neg e2]; exact h
theorem IvP.C {π : aPic} (h : IvP π) : IvP (lsC π) := by
  unfold lsC
  by_cases e : π.1.2.2.2 = 2 ∧ gry π
  · rw [if_pos e]
    exact h.kind (h.1.to (Or.inl e.1) (Or.inl rfl)) (by rw [e.1]; decide) (by decide) (by decide)
  · rw [if_neg e]; exact h
theorem gB_v {b c n : Nat} (hb : b = 1 ∨ b = 2 ∨ b = 4 ∨ b = 8) (hc : c = 1 ∨ c = 2 ∨ c = 4) (hl : c < b) (hn : n ≤ 2 ^ b - 1) : n / stp b c ≤ 2 ^ c - 1 ∧ 0 < stp b c ∧ stp b c ≤ 255 := by
  have h2 : n / stp b c ≤ (2 ^ b - 1) / stp b c := Nat.div_le_div_right hn
  rcases hb with rfl | rfl | rfl | rfl <;> rcases hc with rfl | rfl | rfl
  all_goals first | omega | exact ⟨Nat.le_trans h2 (by decide), by decide, by decide⟩
theorem IvP.gBv {π : aPic} (h : IvP π) (h0 : π.1.2.2.2 = 0) : ∀ n c, (c = 1 ∨ c = 2 ∨ c = 4 ∨ 8 ≤ c) → IvP (gB π n c) := by
  intro n
  induction n with
  | zero => intro c _; exact h
  | succ n ih =>
    intro c hc
    unfold gB
    have hb := h.1.b
    by_cases e : π.1.2.2.1 ≤ c
    · rw [if_pos e]; exact h
    · rw [if_neg e]
      by_cases e2 : dvs π (stp π.1.2.2.1 c)
      · rw [if_pos e2]
        have hc' : c = 1 ∨ c = 2 ∨ c = 4 := by omega
        obtain ⟨h1, h2, h3, h4, h5⟩ := h
        refine ⟨⟨h1.1, h1.2.1, Or.inl ⟨Or.inl rfl, by show c = 1 ∨ c = 2 ∨ c = 4 ∨ c = 8; omega⟩⟩, ⟨h2.1, fun q => absurd q (by show ¬ (0 : Nat) = 3; decide), h2.2.2⟩, h3, fun x hx y hy u hu => ?_, h5⟩
        have hu' : u < chN π.1.2.2.2 := by rw [h0]; exact hu
        obtain ⟨q1, q2, -⟩ := h4 x hx y hy u hu'
        show smJ _ (π.2.1 ((y * 12 + x) * 4 + u) / nI (stp π.1.2.2.1 c))
        generalize π.2.1 ((y * 12 + x) * 4 + u) = v at q1 q2
        obtain ⟨m, hm, rfl⟩ := nI_of (Int32.not_lt.mpr q1)
        rw [gr_n hb.2] at q2
        have p1 := p2_b (show 1 ≤ π.1.2.2.1 by omega) hb.2
        have q3 := (nI_leI hm (by omega)).mp q2
        obtain ⟨r1, r2, r3⟩ := gB_v h1.bb hc' (by omega) q3
        rw [pk_div hm r2 (by omega)]
        have p2 := p2_b (show 1 ≤ c by omega) (show c ≤ 8 by omega)
        exact ⟨nI_pos' (by omega), by show _ ≤ gr (nI c); rw [gr_n (by omega)]; exact nI_le r1 (by omega), Or.inl (by show ¬ nI 0 = 3; decide)⟩
      · rw [if_neg e2]; exact ih _ (by omega)
theorem IvP.pBv {π : aPic} (h : IvP π) (h0 : π.1.2.2.2 = 3) : ∀ n c, (c = 1 ∨ c = 2 ∨ c = 4 ∨ 8 ≤ c) → IvP (pB π n c) := by
  intro n
  induction n with
  | zero => intro c _; exact h
  | succ n ih =>
    intro c hc
    unfold pB
    have hb := h.1.b
    by_cases e : π.1.2.2.1 ≤ c
    · rw [if_pos e]; exact h
    · rw [if_neg e]
      by_cases e2 : π.2.2.1.2 ≤ min 64 (2 ^ c)
      · rw [if_pos e2]
        have hc' : c = 1 ∨ c = 2 ∨ c = 4 := by omega
        obtain ⟨h1, h2, h3, h4, h5⟩ := h
        refine ⟨⟨h1.1, h1.2.1, Or.inl ⟨Or.inr rfl, by show c = 1 ∨ c = 2 ∨ c = 4 ∨ c = 8; omega⟩⟩, ⟨h2.1, fun _ => e2, h2.2.2⟩, h3, fun x hx y hy u hu => ?_, h5⟩
        have hu' : u < chN π.1.2.2.2 := by rw [h0]; exact hu
        obtain ⟨q1, q2, q3⟩ := h4 x hx y hy u hu'
        have q4 := q3.resolve_left (fun q => q (by rw [h0]; rfl))
        have p2 := p2_b (show 1 ≤ c by omega) (show c ≤ 8 by omega)
        refine ⟨q1, ?_, Or.inr q4⟩
        show _ ≤ gr (nI c)
        rw [gr_n (by omega)]
        rcases q4 with q4 | q4
        · rw [q4]; exact nI_pos' (by omega)
        · have hm := Nat.min_le_right 64 (2 ^ c)
          have hm2 := Nat.min_le_left 64 (2 ^ c)
          generalize π.2.1 ((y * 12 + x) * 4 + u) = v at q1 q4
          obtain ⟨m, hm', rfl⟩ := nI_of (Int32.not_lt.mpr q1)
          have := (nI_ltI hm' (by omega)).mp q4
          exact nI_le (by omega) (by omega)
      · rw [if_neg e2]; exact ih _ (by omega)
theorem lsA_x {π : aPic} : (lsA π).2 = π.2 := by
  unfold lsA
  repeat' split
  all_goals rfl
theorem lsC_x {π : aPic} : (lsC π).2 = π.2 := by
  unfold lsC
  split <;> rfl
theorem gB_x {π : aPic} : ∀ n c, (gB π n c).2.2 = π.2.2 := by
  intro n
  induction n with
  | zero => intro c; rfl
  | succ n ih =>
    intro c
    unfold gB
    repeat' split
    · rfl
    · rfl
    · exact ih _
theorem pB_x {π : aPic} : ∀ n c, (pB π n c).2.2 = π.2.2 := by
  intro n
  induction n with
  | zero => intro c; rfl
  | succ n ih =>
    intro c
    unfold pB
    repeat' split
    · rfl
    · rfl
    · exact ih _
theorem iv_re {α : aPF} (hv : IvA α) (hz : hzA α) : IvA (reF α).2 := by
  unfold reF
  by_cases e1 : α.1.1 = true
  · rw [if_neg (fun q => q e1)]
    refine hv.own ?_
    have h1 := hv.1.A.C
    have x1 : (lsC (lsA α.1.2)).2.2 = α.1.2.2.2 := by rw [lsC_x, lsA_x]
    have h2 : IvP (lsM (lsC (lsA α.1.2))) ∧ (lsM (lsC (lsA α.1.2))).2.2 = α.1.2.2.2 := by
      unfold lsM
      by_cases e2 : (lsC (lsA α.1.2)).1.2.2.2 = 0
      · rw [if_pos e2]; exact ⟨h1.gBv e2 3 1 (Or.inl rfl), (gB_x 3 1).trans x1⟩
      · rw [if_neg e2]
        by_cases e3 : (lsC (lsA α.1.2)).1.2.2.2 = 3
        · rw [if_pos e3]; exact ⟨h1.pBv e3 3 1 (Or.inl rfl), (pB_x 3 1).trans x1⟩
        · rw [if_neg e3]; exact ⟨h1, x1⟩
    unfold lsAll lsF
    by_cases e4 : (lsM (lsC (lsA α.1.2))).1.2.2.2 = α.1.2.1.2.2.2 ∧ (lsM (lsC (lsA α.1.2))).1.2.2.1 = α.1.2.1.2.2.1
    · rw [if_pos e4]; exact h2.1
    · rw [if_neg e4]
      exact h2.1.safe (by rw [h2.2]; exact hz)
  · rw [if_pos e1]; exact hv
